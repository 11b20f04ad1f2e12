abbrev V219_Row : vV := [(0, 11, [(4, 0), (4, 0), (4, 0), (4, 0), (4, 0), (0, 0), (4, 0), (0, 0), (0, 0), (0, 0), (0, 0), (0, 0), (0, 0)]), (0, 7, [(4, 0), (0, 0), (1, 0), (0, 0), (0, 0)]), (1, 0, []), (1, 1, [])]
theorem len_V219_Row_oz_D6cls : (V219_Row).length = 4 := by decide +kernel
theorem oz_D6cls_1 : vsub V219_Row V160 [1, 2] = true := by decide +kernel
theorem oz_D6cls_2 : vmov V219_Row [1, 2] [1] = true := by decide +kernel
theorem oz_D6cls_3 : vsub V219_Row V159 [1, 2] = true := by decide +kernel
theorem oz_D6cls_4 : vsub V219_Row V49_Br [2] = true := by decide +kernel
def oz_D6clsl_0 : List (Nat × Nat) := [(1, 0), (1, 1), (1, 2)]
theorem oz_D6cls_5 : (oz_D6clsl_0).all (fun p => !tbz 30064771072 (Nat.add (Nat.mul 32 p.1) p.2)) = true := by decide +kernel
def oz_D6clsl_1 : List Nat := [2]
theorem oz_D6cls_6 : (oz_D6clsl_1).all (fun p => !tbz 4 p) = true := by decide +kernel
def oz_D6clsl_2 : List Nat := [1, 2]
theorem oz_D6cls_7 : okc oz_D6clsl_2 1025 = true := by decide +kernel
theorem oz_D6cls_8 : okc oz_D6clsl_1 2 = true := by decide +kernel

theorem C219_Row {σE : rS} {D N : Nat → Nat} {F : hF} {A : hA} {d c s : Nat} {Q : wQ} (H : HW V219_Row σE D N F A) {a2 : Int} (pf2 : F 1 0 = (D 2 : Int)) (pf3 : F 0 0 = (D 3 : Int)) (n2 : Int) (en2 : (N 2 : Int) = n2) (n3 : Int) (en3 : (N 3 : Int) = n3) (u0_8 : Int) (eu0_8 : F 0 8 = u0_8) (u1_1 : Int) (eu1_1 : F 1 1 = u1_1) (u1_2 : Int) (eu1_2 : F 1 2 = u1_2) (w2 : Int → Int) (ew2 : A 2 = w2) (w3 : Int → Int) (ew3 : A 3 = w3) (h0 : inr (a2)) (h1 : 0 ≤ (u1_1) ∧ (u1_1) ≤ (n2) ∧ (n2) ≤ 65536) (h2 : (u1_1) = 0 ∧ (u1_2) = 0) (h3 : (n3) = 10) (k : ∀ (σ : rS) (Dₚ Nₚ : Nat → Nat) (Fₚ : hF) (Aₚ : hA) (cₚ sₚ : Nat), HW V219_Row σ Dₚ Nₚ Fₚ Aₚ → OUT (V219_Row).length D N σE c s Dₚ Nₚ σ cₚ sₚ → SD [2] D Dₚ → SD [2] N Nₚ → SF [(1, 0), (1, 1), (1, 2)] F Fₚ → SA [2] A Aₚ → Fₚ 1 0 = (Dₚ 2 : Int) → ∀ m2 : Int, (Nₚ 2 : Int) = m2 → ∀ y1_1 : Int, Fₚ 1 1 = y1_1 → ∀ y1_2 : Int, Fₚ 1 2 = y1_2 → ∀ v2 : Int → Int, Aₚ 2 = v2 → (0 ≤ (y1_1) ∧ (y1_1) ≤ (m2) ∧ (m2) ≤ 65536) → (RAP ((u1_2)) ((w2)) ((u1_1)) ((y1_2)) ((v2)) ((y1_1)) (TFH ((u0_8)) (((w3)) 4) (((w3)) 5) ((a2)))) → Q none σ cₚ sₚ) : Ew 219 (d + 3) 0 (rargs 0 [.ref (D 0), .ref (D 1), I a2]) [] σE c s Q := by
  have O := OUT_refl (n := (V219_Row).length) (D := D) (N := N) (σ := σE) (c := c) (s := s)
  have HE := H
  have r1 : (-2147483648 : Int) ≤ u0_8 ∧ u0_8 ≤ 2147483647 := rngE (show (-2147483648 : Int) ≤ F 0 8 ∧ F 0 8 ≤ 2147483647 from H.krg 0 8 (ltn len_V219_Row_oz_D6cls rfl)) (show F 0 8 = u0_8 from (eu0_8))
  have r2 : (-2147483648 : Int) ≤ u1_1 ∧ u1_1 ≤ 2147483647 := rngE (show (-2147483648 : Int) ≤ F 1 1 ∧ F 1 1 ≤ 2147483647 from H.krg 1 1 (ltn len_V219_Row_oz_D6cls rfl)) (show F 1 1 = u1_1 from (eu1_1))
  have r3 : (0 : Int) ≤ u1_2 ∧ u1_2 ≤ 1 := rngE (show (0 : Int) ≤ F 1 2 ∧ F 1 2 ≤ 1 from H.krg 1 2 (ltn len_V219_Row_oz_D6cls rfl)) (show F 1 2 = u1_2 from (eu1_2))
  have r4 : (0 : Int) ≤ n2 ∧ n2 ≤ 1000000 := nleE (H.nle 2 (ltn len_V219_Row_oz_D6cls rfl)) (show (N 2 : Int) = n2 from en2)
  have r5 : (0 : Int) ≤ n3 ∧ n3 ≤ 1000000 := nleE (H.nle 3 (ltn len_V219_Row_oz_D6cls rfl)) (show (N 3 : Int) = n3 from en3)
  refine Ew_of (pcₚ := 1) (fun _ => x_aload_n rfl rfl) ?_
  refine Ew_of (pcₚ := 4) (fun _ => x_ldc2 (z := 407708164) rfl (by decide)) ?_
  refine Ew_of (pcₚ := 5) (fun _ => x_iconst rfl) ?_
  refine v_inv H (o := 1) rfl rfl rfl rfl rfl rfl (by rfl) (C160 (D := puc 1025 D) (N := puc 1025 N) (HW_subc H oz_D6cls_1 oz_D6cls_7) (pf2) (n2) (en2) (u1_1) ((eu1_1)) (u1_2) ((eu1_2)) (w2) (ew2) (show inrJ (407708164) from q_624) (show inr (4) from q_216) (show 0 ≤ (u1_1) ∧ (u1_1) ≤ (n2) ∧ (n2) ≤ 65536 from h1) (show 0 ≤ (4) ∧ (4) ≤ 8 from q_623) (fun σ6 D6ₚ N6ₚ F6ₚ A6ₚ c6 s6 Hₚ Oₚ hD6 hN6 hS6 hA6 pm6_1 m6_1 em6_1 y6_0_1 ey6_0_1 y6_0_2 ey6_0_2 w6_1 ew6_1 pz6_0 pz6_1 pz6_2 => ⟨rfl, ?_⟩))
  refine v_backMc (c := c) (s := s) H oz_D6cls_1 oz_D6cls_7 Hₚ Oₚ hD6 oz_D6cls_2 (fun D6 N6 F6 A6 H Oₚ eD6 eN6 eF6 eA6 => ?_)
  have O := OUT_trans O Oₚ
  -- Row.addNumber
  have cF6 : SF oz_D6clsl_0 F F6 := SF_trans (SF_refl) (SF_gluc (ι := oz_D6clsl_2) oz_D6cls_7 hS6 eF6 (by decide +kernel)) (any_sub (lₚ := [(1, 0), (1, 1), (1, 2)]) (by decide +kernel))
  have mF6 := SFm_of cF6 oz_D6cls_5
  have cA6 : SA oz_D6clsl_1 A A6 := SA_trans (SA_refl) (SA_gluc (ι := oz_D6clsl_2) oz_D6cls_7 hA6 eA6 (by decide +kernel)) (any_subA (lₚ := [2]) (by decide +kernel))
  have mA6 := SAm_of cA6 oz_D6cls_6
  have cD6 : SD oz_D6clsl_1 D D6 := SD_trans (SD_refl) (SD_gluc (ι := oz_D6clsl_2) oz_D6cls_7 hD6 eD6 (by decide +kernel)) (any_subA (lₚ := [2]) (by decide +kernel))
  have mD6 := SDm_of cD6 oz_D6cls_6
  have cN6 : SD oz_D6clsl_1 N N6 := SD_trans (SD_refl) (SD_gluc (ι := oz_D6clsl_2) oz_D6cls_7 hN6 eN6 (by decide +kernel)) (any_subA (lₚ := [2]) (by decide +kernel))
  have mN6 := SDm_of cN6 oz_D6cls_6
  have pf6_1_0 : F6 1 0 = (D6 2 : Int) := (eF6 1 0).trans (pm6_1.trans (congrArg (fun q : Nat => (q : Int)) (eD6 2).symm))
  have r7 : (0 : Int) ≤ m6_1 ∧ m6_1 ≤ 1000000 := nleE (H.nle 2 (ltn len_V219_Row_oz_D6cls rfl)) (show (N6 2 : Int) = m6_1 from (congrArg (fun q : Nat => (q : Int)) (eN6 2)).trans em6_1)
  have r8 : (-2147483648 : Int) ≤ y6_0_1 ∧ y6_0_1 ≤ 2147483647 := rngE (show (-2147483648 : Int) ≤ F6 1 1 ∧ F6 1 1 ≤ 2147483647 from H.krg 1 1 (ltn len_V219_Row_oz_D6cls rfl)) (show F6 1 1 = y6_0_1 from ((eF6 1 1).trans ey6_0_1))
  have r9 : (0 : Int) ≤ y6_0_2 ∧ y6_0_2 ≤ 1 := rngE (show (0 : Int) ≤ F6 1 2 ∧ F6 1 2 ≤ 1 from H.krg 1 2 (ltn len_V219_Row_oz_D6cls rfl)) (show F6 1 2 = y6_0_2 from ((eF6 1 2).trans ey6_0_2))
  have h1_ := pz6_2
  refine Ew_of (pcₚ := 9) (fun _ => x_aload_n rfl rfl) ?_
  refine Ew_of (pcₚ := 10) (fun _ => x_aload_n rfl rfl) ?_
  refine Ew_stk (show ([.ref (D 0), .ref (D 1)] : List Value) = [.ref (D6 0), .ref (D6 1)] by rw [show D6 0 = D 0 from mD6 0 rfl, show D6 1 = D 1 from mD6 1 rfl]) ?_
  refine v_g H (o := 0) (v := I (u0_8)) rfl rfl rfl rfl rfl (congrArg (fun z : Int => I z) (((mF6 0 8 rfl).trans (eu0_8)) : F6 0 8 = u0_8)) ?_
  refine v_inv H (o := 1) rfl rfl rfl rfl rfl rfl (by rfl) (C159 (D := puc 1025 D6) (N := puc 1025 N6) (HW_subc H oz_D6cls_3 oz_D6cls_7) (pf6_1_0) (m6_1) ((congrArg (fun q : Nat => (q : Int)) (eN6 2)).trans em6_1) (y6_0_1) (((eF6 1 1).trans ey6_0_1)) (y6_0_2) (((eF6 1 2).trans ey6_0_2)) (w6_1) ((eA6 2).trans ew6_1) (show inr (u0_8) from q_18 r1) (show 0 ≤ (y6_0_1) ∧ (y6_0_1) ≤ (m6_1) ∧ (m6_1) ≤ 65536 from pz6_0) (fun σ10 D10ₚ N10ₚ F10ₚ A10ₚ c10 s10 Hₚ Oₚ hD10 hN10 hS10 hA10 pm10_1 m10_1 em10_1 y10_0_1 ey10_0_1 y10_0_2 ey10_0_2 w10_1 ew10_1 pz10_0 pz10_1 pz10_2 pz10_3 => ⟨rfl, ?_⟩))
  refine v_backMc (c := (c + c6)) (s := (s + s6)) H oz_D6cls_3 oz_D6cls_7 Hₚ Oₚ hD10 oz_D6cls_2 (fun D10 N10 F10 A10 H Oₚ eD10 eN10 eF10 eA10 => ?_)
  have O := OUT_trans O Oₚ
  -- Row.add
  have cF10 : SF oz_D6clsl_0 F F10 := SF_trans (cF6) (SF_gluc (ι := oz_D6clsl_2) oz_D6cls_7 hS10 eF10 (by decide +kernel)) (any_sub (lₚ := [(1, 0), (1, 1), (1, 2)]) (by decide +kernel))
  have mF10 := SFm_of cF10 oz_D6cls_5
  have cA10 : SA oz_D6clsl_1 A A10 := SA_trans (cA6) (SA_gluc (ι := oz_D6clsl_2) oz_D6cls_7 hA10 eA10 (by decide +kernel)) (any_subA (lₚ := [2]) (by decide +kernel))
  have mA10 := SAm_of cA10 oz_D6cls_6
  have cD10 : SD oz_D6clsl_1 D D10 := SD_trans (cD6) (SD_gluc (ι := oz_D6clsl_2) oz_D6cls_7 hD10 eD10 (by decide +kernel)) (any_subA (lₚ := [2]) (by decide +kernel))
  have mD10 := SDm_of cD10 oz_D6cls_6
  have cN10 : SD oz_D6clsl_1 N N10 := SD_trans (cN6) (SD_gluc (ι := oz_D6clsl_2) oz_D6cls_7 hN10 eN10 (by decide +kernel)) (any_subA (lₚ := [2]) (by decide +kernel))
  have mN10 := SDm_of cN10 oz_D6cls_6
  have pf10_1_0 : F10 1 0 = (D10 2 : Int) := (eF10 1 0).trans (pm10_1.trans (congrArg (fun q : Nat => (q : Int)) (eD10 2).symm))
  have r11 : (0 : Int) ≤ m10_1 ∧ m10_1 ≤ 1000000 := nleE (H.nle 2 (ltn len_V219_Row_oz_D6cls rfl)) (show (N10 2 : Int) = m10_1 from (congrArg (fun q : Nat => (q : Int)) (eN10 2)).trans em10_1)
  have r12 : (-2147483648 : Int) ≤ y10_0_1 ∧ y10_0_1 ≤ 2147483647 := rngE (show (-2147483648 : Int) ≤ F10 1 1 ∧ F10 1 1 ≤ 2147483647 from H.krg 1 1 (ltn len_V219_Row_oz_D6cls rfl)) (show F10 1 1 = y10_0_1 from ((eF10 1 1).trans ey10_0_1))
  have r13 : (0 : Int) ≤ y10_0_2 ∧ y10_0_2 ≤ 1 := rngE (show (0 : Int) ≤ F10 1 2 ∧ F10 1 2 ≤ 1 from H.krg 1 2 (ltn len_V219_Row_oz_D6cls rfl)) (show F10 1 2 = y10_0_2 from ((eF10 1 2).trans ey10_0_2))
  have h2_ := pz10_3
  refine Ew_of (pcₚ := 17) (fun _ => x_aload_n rfl rfl) ?_
  refine Ew_of (pcₚ := 18) (fun _ => x_aload_n rfl rfl) ?_
  refine Ew_stk (show ([.ref (D 0), .ref (D 1)] : List Value) = [.ref (D10 0), .ref (D10 1)] by rw [show D10 0 = D 0 from mD10 0 rfl, show D10 1 = D 1 from mD10 1 rfl]) ?_
  refine v_g H (o := 0) (v := .ref (D10 3)) rfl rfl rfl rfl rfl (vrf ((mF10 0 0 rfl).trans ((pf3).trans (congrArg (fun q : Nat => (q : Int)) (mD10 3 rfl).symm)))) ?_
  refine Ew_of (pcₚ := 22) (fun _ => x_iconst rfl) ?_
  refine v_lI H (o := 3) rfl rfl rfl rfl (n := n3) ((congrArg (fun q : Nat => (q : Int)) (mN10 3 rfl)).trans (en3)) (show 0 ≤ 4 ∧ 4 < n3 from q_3402 h3 r5) (fun v14 ev14 qv14 => ?_)
  have ev14 : (w3) (4) = v14 := (congrFun ((funext (mA10 3 rfl)).trans (ew3)) (4)).symm.trans ev14
  have hkv := ev14
  refine Ew_of (pcₚ := 24) (fun _ => x_iconst rfl) ?_
  refine w_ishlE rfl ?_
  have g15 : inr (slI (v14) (4)) := toI_inr _
  refine v_inv H (o := 1) rfl rfl rfl rfl rfl rfl (by rfl) (C159 (D := puc 1025 D10) (N := puc 1025 N10) (HW_subc H oz_D6cls_3 oz_D6cls_7) (pf10_1_0) (m10_1) ((congrArg (fun q : Nat => (q : Int)) (eN10 2)).trans em10_1) (y10_0_1) (((eF10 1 1).trans ey10_0_1)) (y10_0_2) (((eF10 1 2).trans ey10_0_2)) (w10_1) ((eA10 2).trans ew10_1) (show inr ((slI (v14) (4))) from g15) (show 0 ≤ (y10_0_1) ∧ (y10_0_1) ≤ (m10_1) ∧ (m10_1) ≤ 65536 from pz10_0) (fun σ16 D16ₚ N16ₚ F16ₚ A16ₚ c16 s16 Hₚ Oₚ hD16 hN16 hS16 hA16 pm16_1 m16_1 em16_1 y16_0_1 ey16_0_1 y16_0_2 ey16_0_2 w16_1 ew16_1 pz16_0 pz16_1 pz16_2 pz16_3 => ⟨rfl, ?_⟩))
  refine v_backMc (c := ((c + c6) + c10)) (s := ((s + s6) + s10)) H oz_D6cls_3 oz_D6cls_7 Hₚ Oₚ hD16 oz_D6cls_2 (fun D16 N16 F16 A16 H Oₚ eD16 eN16 eF16 eA16 => ?_)
  have O := OUT_trans O Oₚ
  -- Row.add
  have cF16 : SF oz_D6clsl_0 F F16 := SF_trans (cF10) (SF_gluc (ι := oz_D6clsl_2) oz_D6cls_7 hS16 eF16 (by decide +kernel)) (any_sub (lₚ := [(1, 0), (1, 1), (1, 2)]) (by decide +kernel))
  have mF16 := SFm_of cF16 oz_D6cls_5
  have cA16 : SA oz_D6clsl_1 A A16 := SA_trans (cA10) (SA_gluc (ι := oz_D6clsl_2) oz_D6cls_7 hA16 eA16 (by decide +kernel)) (any_subA (lₚ := [2]) (by decide +kernel))
  have mA16 := SAm_of cA16 oz_D6cls_6
  have cD16 : SD oz_D6clsl_1 D D16 := SD_trans (cD10) (SD_gluc (ι := oz_D6clsl_2) oz_D6cls_7 hD16 eD16 (by decide +kernel)) (any_subA (lₚ := [2]) (by decide +kernel))
  have mD16 := SDm_of cD16 oz_D6cls_6
  have cN16 : SD oz_D6clsl_1 N N16 := SD_trans (cN10) (SD_gluc (ι := oz_D6clsl_2) oz_D6cls_7 hN16 eN16 (by decide +kernel)) (any_subA (lₚ := [2]) (by decide +kernel))
  have mN16 := SDm_of cN16 oz_D6cls_6
  have pf16_1_0 : F16 1 0 = (D16 2 : Int) := (eF16 1 0).trans (pm16_1.trans (congrArg (fun q : Nat => (q : Int)) (eD16 2).symm))
  have r17 : (0 : Int) ≤ m16_1 ∧ m16_1 ≤ 1000000 := nleE (H.nle 2 (ltn len_V219_Row_oz_D6cls rfl)) (show (N16 2 : Int) = m16_1 from (congrArg (fun q : Nat => (q : Int)) (eN16 2)).trans em16_1)
  have r18 : (-2147483648 : Int) ≤ y16_0_1 ∧ y16_0_1 ≤ 2147483647 := rngE (show (-2147483648 : Int) ≤ F16 1 1 ∧ F16 1 1 ≤ 2147483647 from H.krg 1 1 (ltn len_V219_Row_oz_D6cls rfl)) (show F16 1 1 = y16_0_1 from ((eF16 1 1).trans ey16_0_1))
  have r19 : (0 : Int) ≤ y16_0_2 ∧ y16_0_2 ≤ 1 := rngE (show (0 : Int) ≤ F16 1 2 ∧ F16 1 2 ≤ 1 from H.krg 1 2 (ltn len_V219_Row_oz_D6cls rfl)) (show F16 1 2 = y16_0_2 from ((eF16 1 2).trans ey16_0_2))
  have hc46 : ∀ (ls : rO) (σ : rS) (D_c46 N_c46 : Nat → Nat) (c_c46 s_c46 : Nat) (F_c46 : hF) (A_c46 : hA) , rlook ls 0 = some (.ref (D_c46 0)) → rlook ls 1 = some (.ref (D_c46 1)) → HW V219_Row σ D_c46 N_c46 F_c46 A_c46 → OUT (V219_Row).length D N σE c s D_c46 N_c46 σ c_c46 s_c46 → SD [2] D16 D_c46 → SD [2] N16 N_c46 → SF [(1, 0), (1, 1), (1, 2)] F16 F_c46 → SA [2] A16 A_c46 → F_c46 1 0 = (D_c46 2 : Int) → ∀ mc46_2 : Int, (N_c46 2 : Int) = mc46_2 → ∀ yc46_1_1 : Int, F_c46 1 1 = yc46_1_1 → ∀ yc46_1_2 : Int, F_c46 1 2 = yc46_1_2 → ∀ wc46_2 : Int → Int, A_c46 2 = wc46_2 → (0 ≤ (yc46_1_1) ∧ (yc46_1_1) ≤ (mc46_2) ∧ (mc46_2) ≤ 65536) → (RAP ((u1_2)) ((w2)) ((u1_1)) ((yc46_1_2)) ((wc46_2)) ((yc46_1_1)) (((nb 407708164 4 ++ [u8 ((u0_8))]) ++ [u8 (16 * ((w3)) 4)]) ++ opt (andI ((u0_8)) 8) (nb ((a2)) 8))) → Ew 219 (d + 3) 46 ls [] σ c_c46 s_c46 Q := by
   as_aux_lemma =>
    intro  ls σ D_c46 N_c46 c_c46 s_c46 F_c46 A_c46  lc46_0 lc46_1 H O hD_c46 hN_c46 hS_c46 hA_c46 pmc46_2 mc46_2 emc46_2 yc46_1_1 eyc46_1_1 yc46_1_2 eyc46_1_2 wc46_2 ewc46_2 jc46_0 jc46_1
    have cF_c46 : SF oz_D6clsl_0 F F_c46 := SF_trans (cF16) hS_c46 (any_sub (by decide +kernel))
    have mF_c46 := SFm_of cF_c46 oz_D6cls_5
    have cA_c46 : SA oz_D6clsl_1 A A_c46 := SA_trans (cA16) hA_c46 (any_subA (by decide +kernel))
    have mA_c46 := SAm_of cA_c46 oz_D6cls_6
    have cD_c46 : SD oz_D6clsl_1 D D_c46 := SD_trans (cD16) hD_c46 (any_subA (by decide +kernel))
    have mD_c46 := SDm_of cD_c46 oz_D6cls_6
    have cN_c46 : SD oz_D6clsl_1 N N_c46 := SD_trans (cN16) hN_c46 (any_subA (by decide +kernel))
    have mN_c46 := SDm_of cN_c46 oz_D6cls_6
    have r20 : (0 : Int) ≤ mc46_2 ∧ mc46_2 ≤ 1000000 := nleE (H.nle 2 (ltn len_V219_Row_oz_D6cls rfl)) (show (N_c46 2 : Int) = mc46_2 from emc46_2)
    have r21 : (-2147483648 : Int) ≤ yc46_1_1 ∧ yc46_1_1 ≤ 2147483647 := rngE (show (-2147483648 : Int) ≤ F_c46 1 1 ∧ F_c46 1 1 ≤ 2147483647 from H.krg 1 1 (ltn len_V219_Row_oz_D6cls rfl)) (show F_c46 1 1 = yc46_1_1 from (eyc46_1_1))
    have r22 : (0 : Int) ≤ yc46_1_2 ∧ yc46_1_2 ≤ 1 := rngE (show (0 : Int) ≤ F_c46 1 2 ∧ F_c46 1 2 ≤ 1 from H.krg 1 2 (ltn len_V219_Row_oz_D6cls rfl)) (show F_c46 1 2 = yc46_1_2 from (eyc46_1_2))
    have hc67 : ∀ (ls : rO) (σ : rS) (D_c67 N_c67 : Nat → Nat) (c_c67 s_c67 : Nat) (F_c67 : hF) (A_c67 : hA) , rlook ls 1 = some (.ref (D_c67 1)) → HW V219_Row σ D_c67 N_c67 F_c67 A_c67 → OUT (V219_Row).length D N σE c s D_c67 N_c67 σ c_c67 s_c67 → SD [2] D_c46 D_c67 → SD [2] N_c46 N_c67 → SF [(1, 0), (1, 1), (1, 2)] F_c46 F_c67 → SA [2] A_c46 A_c67 → F_c67 1 0 = (D_c67 2 : Int) → ∀ mc67_2 : Int, (N_c67 2 : Int) = mc67_2 → ∀ yc67_1_1 : Int, F_c67 1 1 = yc67_1_1 → ∀ yc67_1_2 : Int, F_c67 1 2 = yc67_1_2 → ∀ wc67_2 : Int → Int, A_c67 2 = wc67_2 → (0 ≤ (yc67_1_1) ∧ (yc67_1_1) ≤ (mc67_2) ∧ (mc67_2) ≤ 65536) → (RAP ((u1_2)) ((w2)) ((u1_1)) ((yc67_1_2)) ((wc67_2)) ((yc67_1_1)) ((((nb 407708164 4 ++ [u8 ((u0_8))]) ++ [u8 (16 * ((w3)) 4)]) ++ opt (andI ((u0_8)) 8) (nb ((a2)) 8)) ++ opt (andI ((u0_8)) 1) (nb (((w3)) 5) 4))) → Ew 219 (d + 3) 67 ls [] σ c_c67 s_c67 Q := by
     as_aux_lemma =>
      intro  ls σ D_c67 N_c67 c_c67 s_c67 F_c67 A_c67  lc67_1 H O hD_c67 hN_c67 hS_c67 hA_c67 pmc67_2 mc67_2 emc67_2 yc67_1_1 eyc67_1_1 yc67_1_2 eyc67_1_2 wc67_2 ewc67_2 jc67_0 jc67_1
      have cF_c67 : SF oz_D6clsl_0 F F_c67 := SF_trans (cF_c46) hS_c67 (any_sub (by decide +kernel))
      have mF_c67 := SFm_of cF_c67 oz_D6cls_5
      have cA_c67 : SA oz_D6clsl_1 A A_c67 := SA_trans (cA_c46) hA_c67 (any_subA (by decide +kernel))
      have mA_c67 := SAm_of cA_c67 oz_D6cls_6
      have cD_c67 : SD oz_D6clsl_1 D D_c67 := SD_trans (cD_c46) hD_c67 (any_subA (by decide +kernel))
      have mD_c67 := SDm_of cD_c67 oz_D6cls_6
      have cN_c67 : SD oz_D6clsl_1 N N_c67 := SD_trans (cN_c46) hN_c67 (any_subA (by decide +kernel))
      have mN_c67 := SDm_of cN_c67 oz_D6cls_6
      have r23 : (0 : Int) ≤ mc67_2 ∧ mc67_2 ≤ 1000000 := nleE (H.nle 2 (ltn len_V219_Row_oz_D6cls rfl)) (show (N_c67 2 : Int) = mc67_2 from emc67_2)
      have r24 : (-2147483648 : Int) ≤ yc67_1_1 ∧ yc67_1_1 ≤ 2147483647 := rngE (show (-2147483648 : Int) ≤ F_c67 1 1 ∧ F_c67 1 1 ≤ 2147483647 from H.krg 1 1 (ltn len_V219_Row_oz_D6cls rfl)) (show F_c67 1 1 = yc67_1_1 from (eyc67_1_1))
      have r25 : (0 : Int) ≤ yc67_1_2 ∧ yc67_1_2 ≤ 1 := rngE (show (0 : Int) ≤ F_c67 1 2 ∧ F_c67 1 2 ≤ 1 from H.krg 1 2 (ltn len_V219_Row_oz_D6cls rfl)) (show F_c67 1 2 = yc67_1_2 from (eyc67_1_2))
      have h5_ : RAP ((u1_2)) ((w2)) ((u1_1)) ((yc67_1_2)) ((wc67_2)) ((yc67_1_1)) ((((nb 407708164 4 ++ [u8 ((u0_8))]) ++ [u8 (16 * ((w3)) 4)]) ++ opt (andI ((u0_8)) 8) (nb ((a2)) 8)) ++ opt (andI ((u0_8)) 1) (nb (((w3)) 5) 4)) := by assumption
      have hl3 := TFh_len (fl := (u0_8)) (k := ((w3)) 4) (key := ((w3)) 5) (n := (a2))
      have hsc := BEC h5_ (by omega) (by omega) (by unfold TFh at hl3; simp only [List.length_append, nb_len, List.length_cons, List.length_nil] at hl3 ⊢; omega)
      have hsd : sc ((wc67_2)) 0 ((yc67_1_1)) = nb 407708164 4 ++ TFh ((u0_8)) (((w3)) 4) (((w3)) 5) ((a2)) := by rw [hsc.2]; unfold TFh; simp only [List.append_assoc]
      have hcl : (yc67_1_1) = 4 + ((TFh ((u0_8)) (((w3)) 4) (((w3)) 5) ((a2))).length : Int) := by have l := sc_lenI (f := (wc67_2)) (show (0 : Int) ≤ (yc67_1_1) from q_3403 jc67_0); rw [hsd, List.length_append, nb_len] at l; omega
      obtain ⟨qn, hqn⟩ : ∃ q : Int, q = (yc67_1_1) := ⟨_, rfl⟩
      rw [← hqn] at hsd
      refine Ew_of (pcₚ := 68) (fun _ => x_aload_n rfl lc67_1) ?_
      refine Ew_of (pcₚ := 69) (fun _ => x_aload_n rfl lc67_1) ?_
      refine v_g H (o := 1) (v := .ref (D_c67 2)) rfl rfl rfl rfl rfl (vrf (pmc67_2)) ?_
      refine Ew_of (pcₚ := 73) (fun _ => x_iconst rfl) ?_
      refine Ew_of (pcₚ := 74) (fun _ => x_aload_n rfl lc67_1) ?_
      refine v_g H (o := 1) (v := I (yc67_1_1)) rfl rfl rfl rfl rfl (congrArg (fun z : Int => I z) ((eyc67_1_1) : F_c67 1 1 = yc67_1_1)) ?_
      refine Ew_of (pcₚ := 78) (fun _ => x_iconst rfl) ?_
      refine w_stat25 rfl rfl (by rfl) (C49_Br (D := puc 2 D_c67) (N := puc 2 N_c67) (HW_subc H oz_D6cls_4 oz_D6cls_8) (mc67_2) (emc67_2) (wc67_2) (ewc67_2) (show inr (4) from q_216) (show inr (yc67_1_1) from q_38 jc67_0) (show inr (0) from q_2) (show 0 ≤ (4) ∧ (4) ≤ (yc67_1_1) ∧ (yc67_1_1) ≤ (mc67_2) by omega) (fun z26 σ26 F26ₚ A26ₚ Hₚ Oₚ hS26 hA26 pz26_0 pz26_1 => ⟨rfl, ?_⟩))
      refine v_backc (c := c_c67) (s := s_c67) H oz_D6cls_4 oz_D6cls_8 Hₚ Oₚ (fun F26 A26 H Oₚ eF26 eA26 => ?_)
      have O := OUT_trans O Oₚ
      -- PackHouse.narrowSum
      have cF26 : SF oz_D6clsl_0 F F26 := SF_trans (cF_c67) (SF_gluc (ι := oz_D6clsl_1) oz_D6cls_8 hS26 eF26 (by decide +kernel)) (any_sub (lₚ := []) (by decide +kernel))
      have mF26 := SFm_of cF26 oz_D6cls_5
      have cA26 : SA oz_D6clsl_1 A A26 := SA_trans (cA_c67) (SA_gluc (ι := oz_D6clsl_1) oz_D6cls_8 hA26 eA26 (by decide +kernel)) (any_subA (lₚ := []) (by decide +kernel))
      have mA26 := SAm_of cA26 oz_D6cls_6
      have hns := pz26_1
      refine Ew_of (pcₚ := 83) (fun _ => x_bipush (z := 8) rfl (by decide)) ?_
      refine w_iushrE rfl ?_
      have g27 : inr (usI (z26) (8)) := toI_inr _
      refine v_inv H (o := 1) rfl rfl rfl rfl rfl rfl (by rfl) (C159 (D := puc 1025 D_c67) (N := puc 1025 N_c67) (HW_subc H oz_D6cls_3 oz_D6cls_7) ((((show F26 1 0 = F_c67 1 0 from (eF26 1 0)))).trans (pmc67_2)) (mc67_2) (emc67_2) (yc67_1_1) ((((show F26 1 1 = F_c67 1 1 from (eF26 1 1))).trans (eyc67_1_1))) (yc67_1_2) ((((show F26 1 2 = F_c67 1 2 from (eF26 1 2))).trans (eyc67_1_2))) (wc67_2) (((show A26 2 = A_c67 2 from (eA26 2).trans (funext (hA26 0 rfl)))).trans (ewc67_2)) (show inr ((usI (z26) (8))) from g27) (show 0 ≤ (yc67_1_1) ∧ (yc67_1_1) ≤ (mc67_2) ∧ (mc67_2) ≤ 65536 from jc67_0) (fun σ28 D28ₚ N28ₚ F28ₚ A28ₚ c28 s28 Hₚ Oₚ hD28 hN28 hS28 hA28 pm28_1 m28_1 em28_1 y28_0_1 ey28_0_1 y28_0_2 ey28_0_2 w28_1 ew28_1 pz28_0 pz28_1 pz28_2 pz28_3 => ⟨rfl, ?_⟩))
      refine v_backMc (c := c_c67) (s := s_c67) H oz_D6cls_3 oz_D6cls_7 Hₚ Oₚ hD28 oz_D6cls_2 (fun D28 N28 F28 A28 H Oₚ eD28 eN28 eF28 eA28 => ?_)
      have O := OUT_trans O Oₚ
      -- Row.add
      have cF28 : SF oz_D6clsl_0 F F28 := SF_trans (cF26) (SF_gluc (ι := oz_D6clsl_2) oz_D6cls_7 hS28 eF28 (by decide +kernel)) (any_sub (lₚ := [(1, 0), (1, 1), (1, 2)]) (by decide +kernel))
      have mF28 := SFm_of cF28 oz_D6cls_5
      have cA28 : SA oz_D6clsl_1 A A28 := SA_trans (cA26) (SA_gluc (ι := oz_D6clsl_2) oz_D6cls_7 hA28 eA28 (by decide +kernel)) (any_subA (lₚ := [2]) (by decide +kernel))
      have mA28 := SAm_of cA28 oz_D6cls_6
      have cD28 : SD oz_D6clsl_1 D D28 := SD_trans (cD_c67) (SD_gluc (ι := oz_D6clsl_2) oz_D6cls_7 hD28 eD28 (by decide +kernel)) (any_subA (lₚ := [2]) (by decide +kernel))
      have mD28 := SDm_of cD28 oz_D6cls_6
      have cN28 : SD oz_D6clsl_1 N N28 := SD_trans (cN_c67) (SD_gluc (ι := oz_D6clsl_2) oz_D6cls_7 hN28 eN28 (by decide +kernel)) (any_subA (lₚ := [2]) (by decide +kernel))
      have mN28 := SDm_of cN28 oz_D6cls_6
      have pf28_1_0 : F28 1 0 = (D28 2 : Int) := (eF28 1 0).trans (pm28_1.trans (congrArg (fun q : Nat => (q : Int)) (eD28 2).symm))
      have r29 : (0 : Int) ≤ m28_1 ∧ m28_1 ≤ 1000000 := nleE (H.nle 2 (ltn len_V219_Row_oz_D6cls rfl)) (show (N28 2 : Int) = m28_1 from (congrArg (fun q : Nat => (q : Int)) (eN28 2)).trans em28_1)
      have r30 : (-2147483648 : Int) ≤ y28_0_1 ∧ y28_0_1 ≤ 2147483647 := rngE (show (-2147483648 : Int) ≤ F28 1 1 ∧ F28 1 1 ≤ 2147483647 from H.krg 1 1 (ltn len_V219_Row_oz_D6cls rfl)) (show F28 1 1 = y28_0_1 from ((eF28 1 1).trans ey28_0_1))
      have r31 : (0 : Int) ≤ y28_0_2 ∧ y28_0_2 ≤ 1 := rngE (show (0 : Int) ≤ F28 1 2 ∧ F28 1 2 ≤ 1 from H.krg 1 2 (ltn len_V219_Row_oz_D6cls rfl)) (show F28 1 2 = y28_0_2 from ((eF28 1 2).trans ey28_0_2))
      have : RAP ((u1_2)) ((w2)) ((u1_1)) ((y28_0_2)) ((w28_1)) ((y28_0_1)) (TFH ((u0_8)) (((w3)) 4) (((w3)) 5) ((a2))) := RAP_c (RAP_trans h5_ pz28_3) (by rw [u8_us8, hns, NSM_L (b := qn) (by omega) (by omega), sc_drop hsd (by rw [nb_len]; rfl) (by omega)]; unfold TFH TFh; simp only [List.append_assoc])
      exact w_ret rfl (k _ _ _ _ _ _ _ H O (cD28) (cN28) (cF28) (cA28) (pf28_1_0) (m28_1) ((congrArg (fun q : Nat => (q : Int)) (eN28 2)).trans em28_1) (y28_0_1) (((eF28 1 1).trans ey28_0_1)) (y28_0_2) (((eF28 1 2).trans ey28_0_2)) (w28_1) ((eA28 2).trans ew28_1) (show 0 ≤ (y28_0_1) ∧ (y28_0_1) ≤ (m28_1) ∧ (m28_1) ≤ 65536 from pz28_0) (show RAP ((u1_2)) ((w2)) ((u1_1)) ((y28_0_2)) ((w28_1)) ((y28_0_1)) (TFH ((u0_8)) (((w3)) 4) (((w3)) 5) (a2)) by assumption))
    have h4_ : RAP ((u1_2)) ((w2)) ((u1_1)) ((yc46_1_2)) ((wc46_2)) ((yc46_1_1)) (((nb 407708164 4 ++ [u8 ((u0_8))]) ++ [u8 (16 * ((w3)) 4)]) ++ opt (andI ((u0_8)) 8) (nb ((a2)) 8)) := by assumption
    refine Ew_of (pcₚ := 47) (fun _ => x_aload_n rfl lc46_0) ?_
    refine v_g H (o := 0) (v := I (u0_8)) rfl rfl rfl rfl rfl (congrArg (fun z : Int => I z) (((mF_c46 0 8 rfl).trans (eu0_8)) : F_c46 0 8 = u0_8)) ?_
    refine Ew_of (pcₚ := 51) (fun _ => x_iconst rfl) ?_
    refine w_iandE rfl (show inr (u0_8) from q_18 r1) (show inr (1) from q_135) (fun z32 gz32 gaz32 gbz32 gez32 => ?_)
    refine w_ifeq (t := 67) rfl rfl (show inr (z32) from gz32) (fun b33 => ?_) (fun b33 => ?_)
    · have : RAP ((u1_2)) ((w2)) ((u1_1)) ((yc46_1_2)) ((wc46_2)) ((yc46_1_1)) ((((nb 407708164 4 ++ [u8 ((u0_8))]) ++ [u8 (16 * ((w3)) 4)]) ++ opt (andI ((u0_8)) 8) (nb ((a2)) 8)) ++ opt (andI ((u0_8)) 1) (nb (((w3)) 5) 4)) := by first | exact RAP_o0 h4_ (by omega) | exact RAP_o1 h4_ (by have h := pNONE_2; rw [← hkw] at h; exact h) (by omega)
      exact hc67  _ _ _ _ _ _ _ _  (lc46_1) H O (SD_refl) (SD_refl) (SF_refl) (SA_refl) (pmc46_2) (mc46_2) (emc46_2) (yc46_1_1) ((eyc46_1_1)) (yc46_1_2) ((eyc46_1_2)) (wc46_2) (ewc46_2) (show 0 ≤ (yc46_1_1) ∧ (yc46_1_1) ≤ (mc46_2) ∧ (mc46_2) ≤ 65536 from jc46_0) (show RAP ((u1_2)) ((w2)) ((u1_1)) ((yc46_1_2)) ((wc46_2)) ((yc46_1_1)) ((((nb 407708164 4 ++ [u8 ((u0_8))]) ++ [u8 (16 * ((w3)) 4)]) ++ opt (andI ((u0_8)) 8) (nb ((a2)) 8)) ++ opt (andI ((u0_8)) 1) (nb (((w3)) 5) 4)) by assumption)
    · refine Ew_of (pcₚ := 56) (fun _ => x_aload_n rfl lc46_1) ?_
      refine Ew_of (pcₚ := 57) (fun _ => x_aload_n rfl lc46_0) ?_
      refine v_g H (o := 0) (v := .ref (D_c46 3)) rfl rfl rfl rfl rfl (vrf ((mF_c46 0 0 rfl).trans ((pf3).trans (congrArg (fun q : Nat => (q : Int)) (mD_c46 3 rfl).symm)))) ?_
      refine Ew_of (pcₚ := 61) (fun _ => x_iconst rfl) ?_
      refine v_lI H (o := 3) rfl rfl rfl rfl (n := n3) ((congrArg (fun q : Nat => (q : Int)) (mN_c46 3 rfl)).trans (en3)) (show 0 ≤ 5 ∧ 5 < n3 from q_3404 h3 r5) (fun v34 ev34 qv34 => ?_)
      have ev34 : (w3) (5) = v34 := (congrFun ((funext (mA_c46 3 rfl)).trans (ew3)) (5)).symm.trans ev34
      have hkw := ev34
      refine w_i2l rfl (show inr (v34) from qv34) ?_
      refine Ew_of (pcₚ := 64) (fun _ => x_iconst rfl) ?_
      refine v_inv H (o := 1) rfl rfl rfl rfl rfl rfl (by rfl) (C160 (D := puc 1025 D_c46) (N := puc 1025 N_c46) (HW_subc H oz_D6cls_1 oz_D6cls_7) (pmc46_2) (mc46_2) (emc46_2) (yc46_1_1) ((eyc46_1_1)) (yc46_1_2) ((eyc46_1_2)) (wc46_2) (ewc46_2) (show inrJ (v34) from q_2579 qv34) (show inr (4) from q_216) (show 0 ≤ (yc46_1_1) ∧ (yc46_1_1) ≤ (mc46_2) ∧ (mc46_2) ≤ 65536 from jc46_0) (show 0 ≤ (4) ∧ (4) ≤ 8 from q_623) (fun σ35 D35ₚ N35ₚ F35ₚ A35ₚ c35 s35 Hₚ Oₚ hD35 hN35 hS35 hA35 pm35_1 m35_1 em35_1 y35_0_1 ey35_0_1 y35_0_2 ey35_0_2 w35_1 ew35_1 pz35_0 pz35_1 pz35_2 => ⟨rfl, ?_⟩))
      refine v_backMc (c := c_c46) (s := s_c46) H oz_D6cls_1 oz_D6cls_7 Hₚ Oₚ hD35 oz_D6cls_2 (fun D35 N35 F35 A35 H Oₚ eD35 eN35 eF35 eA35 => ?_)
      have O := OUT_trans O Oₚ
      -- Row.addNumber
      have cF35 : SF oz_D6clsl_0 F F35 := SF_trans (cF_c46) (SF_gluc (ι := oz_D6clsl_2) oz_D6cls_7 hS35 eF35 (by decide +kernel)) (any_sub (lₚ := [(1, 0), (1, 1), (1, 2)]) (by decide +kernel))
      have mF35 := SFm_of cF35 oz_D6cls_5
      have cA35 : SA oz_D6clsl_1 A A35 := SA_trans (cA_c46) (SA_gluc (ι := oz_D6clsl_2) oz_D6cls_7 hA35 eA35 (by decide +kernel)) (any_subA (lₚ := [2]) (by decide +kernel))
      have mA35 := SAm_of cA35 oz_D6cls_6
      have cD35 : SD oz_D6clsl_1 D D35 := SD_trans (cD_c46) (SD_gluc (ι := oz_D6clsl_2) oz_D6cls_7 hD35 eD35 (by decide +kernel)) (any_subA (lₚ := [2]) (by decide +kernel))
      have mD35 := SDm_of cD35 oz_D6cls_6
      have cN35 : SD oz_D6clsl_1 N N35 := SD_trans (cN_c46) (SD_gluc (ι := oz_D6clsl_2) oz_D6cls_7 hN35 eN35 (by decide +kernel)) (any_subA (lₚ := [2]) (by decide +kernel))
      have mN35 := SDm_of cN35 oz_D6cls_6
      have pf35_1_0 : F35 1 0 = (D35 2 : Int) := (eF35 1 0).trans (pm35_1.trans (congrArg (fun q : Nat => (q : Int)) (eD35 2).symm))
      have r36 : (0 : Int) ≤ m35_1 ∧ m35_1 ≤ 1000000 := nleE (H.nle 2 (ltn len_V219_Row_oz_D6cls rfl)) (show (N35 2 : Int) = m35_1 from (congrArg (fun q : Nat => (q : Int)) (eN35 2)).trans em35_1)
      have r37 : (-2147483648 : Int) ≤ y35_0_1 ∧ y35_0_1 ≤ 2147483647 := rngE (show (-2147483648 : Int) ≤ F35 1 1 ∧ F35 1 1 ≤ 2147483647 from H.krg 1 1 (ltn len_V219_Row_oz_D6cls rfl)) (show F35 1 1 = y35_0_1 from ((eF35 1 1).trans ey35_0_1))
      have r38 : (0 : Int) ≤ y35_0_2 ∧ y35_0_2 ≤ 1 := rngE (show (0 : Int) ≤ F35 1 2 ∧ F35 1 2 ≤ 1 from H.krg 1 2 (ltn len_V219_Row_oz_D6cls rfl)) (show F35 1 2 = y35_0_2 from ((eF35 1 2).trans ey35_0_2))
      have : RAP ((u1_2)) ((w2)) ((u1_1)) ((y35_0_2)) ((w35_1)) ((y35_0_1)) ((((nb 407708164 4 ++ [u8 ((u0_8))]) ++ [u8 (16 * ((w3)) 4)]) ++ opt (andI ((u0_8)) 8) (nb ((a2)) 8)) ++ opt (andI ((u0_8)) 1) (nb (((w3)) 5) 4)) := by first | exact RAP_o0 h4_ (by omega) | exact RAP_o1 h4_ (by have h := pz35_2; rw [← hkw] at h; exact h) (by omega)
      exact hc67  _ _ _ _ _ _ _ _  ((lc46_1).trans (congrArg (fun q : Nat => some (Value.ref q)) (((show D35 1 = D_c46 1 from (eD35 1).trans (hD35 0 rfl)))).symm)) H O (SD_trans (SD_refl) (SD_gluc (ι := oz_D6clsl_2) oz_D6cls_7 hD35 eD35 (by decide +kernel)) (any_subA (lₚ := [2]) (by decide +kernel))) (SD_trans (SD_refl) (SD_gluc (ι := oz_D6clsl_2) oz_D6cls_7 hN35 eN35 (by decide +kernel)) (any_subA (lₚ := [2]) (by decide +kernel))) (SF_trans (SF_refl) (SF_gluc (ι := oz_D6clsl_2) oz_D6cls_7 hS35 eF35 (by decide +kernel)) (any_sub (lₚ := [(1, 0), (1, 1), (1, 2)]) (by decide +kernel))) (SA_trans (SA_refl) (SA_gluc (ι := oz_D6clsl_2) oz_D6cls_7 hA35 eA35 (by decide +kernel)) (any_subA (lₚ := [2]) (by decide +kernel))) (pf35_1_0) (m35_1) ((congrArg (fun q : Nat => (q : Int)) (eN35 2)).trans em35_1) (y35_0_1) (((eF35 1 1).trans ey35_0_1)) (y35_0_2) (((eF35 1 2).trans ey35_0_2)) (w35_1) ((eA35 2).trans ew35_1) (show 0 ≤ (y35_0_1) ∧ (y35_0_1) ≤ (m35_1) ∧ (m35_1) ≤ 65536 from pz35_0) (show RAP ((u1_2)) ((w2)) ((u1_1)) ((y35_0_2)) ((w35_1)) ((y35_0_1)) ((((nb 407708164 4 ++ [u8 ((u0_8))]) ++ [u8 (16 * ((w3)) 4)]) ++ opt (andI ((u0_8)) 8) (nb ((a2)) 8)) ++ opt (andI ((u0_8)) 1) (nb (((w3)) 5) 4)) by assumption)
  have h3_ : RAP ((u1_2)) ((w2)) ((u1_1)) ((y16_0_2)) ((w16_1)) ((y16_0_1)) ((nb 407708164 4 ++ [u8 ((u0_8))]) ++ [u8 (16 * ((w3)) 4)]) := by have h := pz16_3; rw [u8_sl4, ← hkv] at h; exact RAP_trans (RAP_trans h1_ h2_) h
  refine Ew_of (pcₚ := 29) (fun _ => x_aload_n rfl rfl) ?_
  refine Ew_stk (congrArg (fun qz : Nat => ([.ref qz] : List Value)) (show D16 0 = D 0 from mD16 0 rfl).symm) ?_
  refine v_g H (o := 0) (v := I (u0_8)) rfl rfl rfl rfl rfl (congrArg (fun z : Int => I z) (((mF16 0 8 rfl).trans (eu0_8)) : F16 0 8 = u0_8)) ?_
  refine Ew_of (pcₚ := 34) (fun _ => x_bipush (z := 8) rfl (by decide)) ?_
  refine w_iandE rfl (show inr (u0_8) from q_18 r1) (show inr (8) from q_141) (fun z39 gz39 gaz39 gbz39 gez39 => ?_)
  refine w_ifeq (t := 46) rfl rfl (show inr (z39) from gz39) (fun b40 => ?_) (fun b40 => ?_)
  · have : RAP ((u1_2)) ((w2)) ((u1_1)) ((y16_0_2)) ((w16_1)) ((y16_0_1)) (((nb 407708164 4 ++ [u8 ((u0_8))]) ++ [u8 (16 * ((w3)) 4)]) ++ opt (andI ((u0_8)) 8) (nb ((a2)) 8)) := by first | exact RAP_o0 h3_ (by omega) | exact RAP_o1 h3_ pNONE_2 (by omega)
    exact hc46  _ _ _ _ _ _ _ _  ((rfl).trans (congrArg (fun q : Nat => some (Value.ref q)) (mD16 0 rfl).symm)) ((rfl).trans (congrArg (fun q : Nat => some (Value.ref q)) (mD16 1 rfl).symm)) H O (SD_refl) (SD_refl) (SF_refl) (SA_refl) (pf16_1_0) (m16_1) ((congrArg (fun q : Nat => (q : Int)) (eN16 2)).trans em16_1) (y16_0_1) (((eF16 1 1).trans ey16_0_1)) (y16_0_2) (((eF16 1 2).trans ey16_0_2)) (w16_1) ((eA16 2).trans ew16_1) (show 0 ≤ (y16_0_1) ∧ (y16_0_1) ≤ (m16_1) ∧ (m16_1) ≤ 65536 from pz16_0) (show RAP ((u1_2)) ((w2)) ((u1_1)) ((y16_0_2)) ((w16_1)) ((y16_0_1)) (((nb 407708164 4 ++ [u8 ((u0_8))]) ++ [u8 (16 * ((w3)) 4)]) ++ opt (andI ((u0_8)) 8) (nb ((a2)) 8)) by assumption)
  · refine Ew_of (pcₚ := 39) (fun _ => x_aload_n rfl rfl) ?_
    refine Ew_of (pcₚ := 40) (fun _ => x_iload_n rfl rfl) ?_
    refine w_i2l rfl (show inr (a2) from h0) ?_
    refine Ew_of (pcₚ := 43) (fun _ => x_bipush (z := 8) rfl (by decide)) ?_
    refine Ew_stk (congrArg (fun qz : Nat => ([I (8), J (a2), .ref qz] : List Value)) (show D16 1 = D 1 from mD16 1 rfl).symm) ?_
    refine v_inv H (o := 1) rfl rfl rfl rfl rfl rfl (by rfl) (C160 (D := puc 1025 D16) (N := puc 1025 N16) (HW_subc H oz_D6cls_1 oz_D6cls_7) (pf16_1_0) (m16_1) ((congrArg (fun q : Nat => (q : Int)) (eN16 2)).trans em16_1) (y16_0_1) (((eF16 1 1).trans ey16_0_1)) (y16_0_2) (((eF16 1 2).trans ey16_0_2)) (w16_1) ((eA16 2).trans ew16_1) (show inrJ (a2) from q_2579 h0) (show inr (8) from q_141) (show 0 ≤ (y16_0_1) ∧ (y16_0_1) ≤ (m16_1) ∧ (m16_1) ≤ 65536 from pz16_0) (show 0 ≤ (8) ∧ (8) ≤ 8 from q_669) (fun σ41 D41ₚ N41ₚ F41ₚ A41ₚ c41 s41 Hₚ Oₚ hD41 hN41 hS41 hA41 pm41_1 m41_1 em41_1 y41_0_1 ey41_0_1 y41_0_2 ey41_0_2 w41_1 ew41_1 pz41_0 pz41_1 pz41_2 => ⟨rfl, ?_⟩))
    refine v_backMc (c := (((c + c6) + c10) + c16)) (s := (((s + s6) + s10) + s16)) H oz_D6cls_1 oz_D6cls_7 Hₚ Oₚ hD41 oz_D6cls_2 (fun D41 N41 F41 A41 H Oₚ eD41 eN41 eF41 eA41 => ?_)
    have O := OUT_trans O Oₚ
    -- Row.addNumber
    have cF41 : SF oz_D6clsl_0 F F41 := SF_trans (cF16) (SF_gluc (ι := oz_D6clsl_2) oz_D6cls_7 hS41 eF41 (by decide +kernel)) (any_sub (lₚ := [(1, 0), (1, 1), (1, 2)]) (by decide +kernel))
    have mF41 := SFm_of cF41 oz_D6cls_5
    have cA41 : SA oz_D6clsl_1 A A41 := SA_trans (cA16) (SA_gluc (ι := oz_D6clsl_2) oz_D6cls_7 hA41 eA41 (by decide +kernel)) (any_subA (lₚ := [2]) (by decide +kernel))
    have mA41 := SAm_of cA41 oz_D6cls_6
    have cD41 : SD oz_D6clsl_1 D D41 := SD_trans (cD16) (SD_gluc (ι := oz_D6clsl_2) oz_D6cls_7 hD41 eD41 (by decide +kernel)) (any_subA (lₚ := [2]) (by decide +kernel))
    have mD41 := SDm_of cD41 oz_D6cls_6
    have cN41 : SD oz_D6clsl_1 N N41 := SD_trans (cN16) (SD_gluc (ι := oz_D6clsl_2) oz_D6cls_7 hN41 eN41 (by decide +kernel)) (any_subA (lₚ := [2]) (by decide +kernel))
    have mN41 := SDm_of cN41 oz_D6cls_6
    have pf41_1_0 : F41 1 0 = (D41 2 : Int) := (eF41 1 0).trans (pm41_1.trans (congrArg (fun q : Nat => (q : Int)) (eD41 2).symm))
    have r42 : (0 : Int) ≤ m41_1 ∧ m41_1 ≤ 1000000 := nleE (H.nle 2 (ltn len_V219_Row_oz_D6cls rfl)) (show (N41 2 : Int) = m41_1 from (congrArg (fun q : Nat => (q : Int)) (eN41 2)).trans em41_1)
    have r43 : (-2147483648 : Int) ≤ y41_0_1 ∧ y41_0_1 ≤ 2147483647 := rngE (show (-2147483648 : Int) ≤ F41 1 1 ∧ F41 1 1 ≤ 2147483647 from H.krg 1 1 (ltn len_V219_Row_oz_D6cls rfl)) (show F41 1 1 = y41_0_1 from ((eF41 1 1).trans ey41_0_1))
    have r44 : (0 : Int) ≤ y41_0_2 ∧ y41_0_2 ≤ 1 := rngE (show (0 : Int) ≤ F41 1 2 ∧ F41 1 2 ≤ 1 from H.krg 1 2 (ltn len_V219_Row_oz_D6cls rfl)) (show F41 1 2 = y41_0_2 from ((eF41 1 2).trans ey41_0_2))
    have : RAP ((u1_2)) ((w2)) ((u1_1)) ((y41_0_2)) ((w41_1)) ((y41_0_1)) (((nb 407708164 4 ++ [u8 ((u0_8))]) ++ [u8 (16 * ((w3)) 4)]) ++ opt (andI ((u0_8)) 8) (nb ((a2)) 8)) := by first | exact RAP_o0 h3_ (by omega) | exact RAP_o1 h3_ pz41_2 (by omega)
    exact hc46  _ _ _ _ _ _ _ _  ((rfl).trans (congrArg (fun q : Nat => some (Value.ref q)) (mD41 0 rfl).symm)) ((rfl).trans (congrArg (fun q : Nat => some (Value.ref q)) (mD41 1 rfl).symm)) H O (SD_trans (SD_refl) (SD_gluc (ι := oz_D6clsl_2) oz_D6cls_7 hD41 eD41 (by decide +kernel)) (any_subA (lₚ := [2]) (by decide +kernel))) (SD_trans (SD_refl) (SD_gluc (ι := oz_D6clsl_2) oz_D6cls_7 hN41 eN41 (by decide +kernel)) (any_subA (lₚ := [2]) (by decide +kernel))) (SF_trans (SF_refl) (SF_gluc (ι := oz_D6clsl_2) oz_D6cls_7 hS41 eF41 (by decide +kernel)) (any_sub (lₚ := [(1, 0), (1, 1), (1, 2)]) (by decide +kernel))) (SA_trans (SA_refl) (SA_gluc (ι := oz_D6clsl_2) oz_D6cls_7 hA41 eA41 (by decide +kernel)) (any_subA (lₚ := [2]) (by decide +kernel))) (pf41_1_0) (m41_1) ((congrArg (fun q : Nat => (q : Int)) (eN41 2)).trans em41_1) (y41_0_1) (((eF41 1 1).trans ey41_0_1)) (y41_0_2) (((eF41 1 2).trans ey41_0_2)) (w41_1) ((eA41 2).trans ew41_1) (show 0 ≤ (y41_0_1) ∧ (y41_0_1) ≤ (m41_1) ∧ (m41_1) ≤ 65536 from pz41_0) (show RAP ((u1_2)) ((w2)) ((u1_1)) ((y41_0_2)) ((w41_1)) ((y41_0_1)) (((nb 407708164 4 ++ [u8 ((u0_8))]) ++ [u8 (16 * ((w3)) 4)]) ++ opt (andI ((u0_8)) 8) (nb ((a2)) 8)) by assumption)
def oz_D6clsl_3 : List Nat := [3]
theorem oz_D6cls_15 : (oz_D6clsl_3).all (fun p => !tbz 8 p) = true := by decide +kernel
def oz_D6clsl_6 : List Nat := [4]
abbrev V211 : vV := [(0, 10, [(4, 0), (4, 0), (4, 0), (4, 0), (0, 0), (4, 0), (0, 0), (2, 0), (0, 0)]), (1, 0, []), (0, 7, [(4, 0), (0, 0), (1, 0), (0, 0), (0, 0)]), (1, 0, [])]
theorem len_V211_oz_D6cls : (V211).length = 4 := by decide +kernel
theorem oz_D6cls_20 : vsub V211 V203 [0] = true := by decide +kernel
theorem oz_D6cls_21 : vsub V211 V53_Br [3] = true := by decide +kernel
theorem oz_D6cls_22 : vsub V211 V54 [] = true := by decide +kernel
theorem oz_D6cls_23 : vsub V211 V41_Br [1] = true := by decide +kernel
theorem oz_D6cls_24 : vsub V211 V161_Br [2, 1, 3] = true := by decide +kernel
theorem oz_D6cls_25 : vmov V211 [2, 1, 3] [2] = true := by decide +kernel
theorem oz_D6cls_26 : vsub V211 V206 [0, 1, 2, 3] = true := by decide +kernel
theorem oz_D6cls_27 : vmov V211 [0, 1, 2, 3] [3] = true := by decide +kernel
def oz_D6clsl_7 : List (Nat × Nat) := [(0, 7), (0, 8), (2, 0), (2, 1), (2, 2)]
theorem oz_D6cls_28 : (oz_D6clsl_7).all (fun p => !tbz 129127208515966861696 (Nat.add (Nat.mul 32 p.1) p.2)) = true := by decide +kernel
def oz_D6clsl_8 : List Nat := [0]
theorem oz_D6cls_29 : okc oz_D6clsl_8 0 = true := by decide +kernel
theorem oz_D6cls_30 : okc oz_D6clsl_3 3 = true := by decide +kernel
def oz_D6clsl_9 : List Nat := []
theorem oz_D6cls_31 : okc oz_D6clsl_9 0 = true := by decide +kernel
def oz_D6clsl_10 : List Nat := [1]
theorem oz_D6cls_32 : okc oz_D6clsl_10 1 = true := by decide +kernel
def oz_D6clsl_11 : List Nat := [2, 1, 3]
theorem oz_D6cls_33 : okc oz_D6clsl_11 786946 = true := by decide +kernel
def oz_D6clsl_12 : List Nat := [0, 1, 2, 3]
theorem oz_D6cls_34 : okc oz_D6clsl_12 403177984 = true := by decide +kernel

theorem C211 {σE : rS} {D N : Nat → Nat} {F : hF} {A : hA} {d c s : Nat} {Q : wQ} (H : HW V211 σE D N F A) (HT : STC σE) {a1 a2 a3 : Int} (pf1 : F 0 3 = (D 1 : Int)) (pf2 : F 0 5 = (D 2 : Int)) (pf3 : F 2 0 = (D 3 : Int)) (n1 : Int) (en1 : (N 1 : Int) = n1) (n3 : Int) (en3 : (N 3 : Int) = n3) (u0_6 : Int) (eu0_6 : F 0 6 = u0_6) (u0_8 : Int) (eu0_8 : F 0 8 = u0_8) (u2_1 : Int) (eu2_1 : F 2 1 = u2_1) (u2_2 : Int) (eu2_2 : F 2 2 = u2_2) (w1 : Int → Int) (ew1 : A 1 = w1) (w3 : Int → Int) (ew3 : A 3 = w3) (h0 : inr (a1)) (h1 : inr (a2)) (h2 : inr (a3)) (h3 : 0 ≤ (a1) ∧ 0 ≤ (a3) ∧ (a1) + 4 + (a3) ≤ (n1) ∧ (n1) ≤ 65536) (h4 : 0 ≤ (u2_1) ∧ (u2_1) ≤ (n3) ∧ (n3) ≤ 65536) (h5 : 0 ≤ (u0_6) ∧ (u0_6) ≤ 65536 ∧ (u2_1) ≤ (u0_6)) (h6 : (u2_2) = 0) (h7 : 0 ≤ (a2) ∧ (a2) ≤ 1) (k : ∀ (z : Int) (σ : rS) (Dₚ Nₚ : Nat → Nat) (Fₚ : hF) (Aₚ : hA) (cₚ sₚ : Nat), HW V211 σ Dₚ Nₚ Fₚ Aₚ → OUT (V211).length D N σE c s Dₚ Nₚ σ cₚ sₚ → SD [3] D Dₚ → SD [3] N Nₚ → SF [(0, 7), (0, 8), (2, 0), (2, 1), (2, 2)] F Fₚ → SA [3] A Aₚ → Fₚ 2 0 = (Dₚ 3 : Int) → ∀ m3 : Int, (Nₚ 3 : Int) = m3 → ∀ y0_8 : Int, Fₚ 0 8 = y0_8 → ∀ y2_1 : Int, Fₚ 2 1 = y2_1 → ∀ y2_2 : Int, Fₚ 2 2 = y2_2 → ∀ v3 : Int → Int, Aₚ 3 = v3 → (inr (z)) → (0 ≤ (z) ∧ (z) ≤ 12) → (0 ≤ (y2_1) ∧ (y2_1) ≤ (m3) ∧ (m3) ≤ 65536) → ((u2_1) ≤ (y2_1) ∧ (y2_1) ≤ (u0_6)) → ((y2_2) = 0) → (IMP ((z) = 0) (¬((a3) < 4 ∨ (a2) = 1 ∧ 65540 < (a3)) ∧ ∃ pl0 X, TUb (ub8 ((w1))) ((u0_6)) ((a1)) ((a2)) ((a3)) (sc ((w3)) 0 ((u2_1))) (0) (pl0) (X) ∧ TUc (ub8 ((w1))) ((a1)) X ∧ sc ((v3)) 0 ((y2_1)) = sc ((w3)) 0 ((u2_1)) ++ X)) → (IMP ((z) ≠ 0) (((a3) < 4 ∨ (a2) = 1 ∧ 65540 < (a3)) ∧ (z) = 10 ∧ (y0_8) = (a1) ∨ ¬((a3) < 4 ∨ (a2) = 1 ∧ 65540 < (a3)) ∧ ∃ f0 pl0 X, TUb (ub8 ((w1))) ((u0_6)) ((a1)) ((a2)) ((a3)) (sc ((w3)) 0 ((u2_1))) (f0) (pl0) (X) ∧ (f0 ≠ 0 ∧ (z) = f0 ∧ (y0_8) = pl0 ∨ f0 = 0 ∧ ¬ TUc (ub8 ((w1))) ((a1)) X ∧ (z) = 11 ∧ (y0_8) = (a1) + 4))) → Q (some (I z)) σ cₚ sₚ) : Ew 211 (d + 4) 0 (rargs 0 [.ref (D 0), I a1, I a2, I a3]) [] σE c s Q := by
  have O := OUT_refl (n := (V211).length) (D := D) (N := N) (σ := σE) (c := c) (s := s)
  have HE := H
  have r1 : (-2147483648 : Int) ≤ u0_6 ∧ u0_6 ≤ 2147483647 := rngE (show (-2147483648 : Int) ≤ F 0 6 ∧ F 0 6 ≤ 2147483647 from H.krg 0 6 (ltn len_V211_oz_D6cls rfl)) (show F 0 6 = u0_6 from (eu0_6))
  have r2 : (-2147483648 : Int) ≤ u0_8 ∧ u0_8 ≤ 2147483647 := rngE (show (-2147483648 : Int) ≤ F 0 8 ∧ F 0 8 ≤ 2147483647 from H.krg 0 8 (ltn len_V211_oz_D6cls rfl)) (show F 0 8 = u0_8 from (eu0_8))
  have r3 : (-2147483648 : Int) ≤ u2_1 ∧ u2_1 ≤ 2147483647 := rngE (show (-2147483648 : Int) ≤ F 2 1 ∧ F 2 1 ≤ 2147483647 from H.krg 2 1 (ltn len_V211_oz_D6cls rfl)) (show F 2 1 = u2_1 from (eu2_1))
  have r4 : (0 : Int) ≤ u2_2 ∧ u2_2 ≤ 1 := rngE (show (0 : Int) ≤ F 2 2 ∧ F 2 2 ≤ 1 from H.krg 2 2 (ltn len_V211_oz_D6cls rfl)) (show F 2 2 = u2_2 from (eu2_2))
  have r5 : (0 : Int) ≤ n1 ∧ n1 ≤ 1000000 := nleE (H.nle 1 (ltn len_V211_oz_D6cls rfl)) (show (N 1 : Int) = n1 from en1)
  have r6 : (0 : Int) ≤ n3 ∧ n3 ≤ 1000000 := nleE (H.nle 3 (ltn len_V211_oz_D6cls rfl)) (show (N 3 : Int) = n3 from en3)
  refine Ew_of (pcₚ := 1) (fun _ => x_iload_n rfl rfl) ?_
  refine Ew_of (pcₚ := 2) (fun _ => x_iconst rfl) ?_
  refine w_icmplt (t := 16) rfl rfl (show inr (a3) from h2) (show inr (4) from q_216) (fun b7 => ?_) (fun b7 => ?_)
  · refine Ew_of (pcₚ := 17) (fun _ => x_aload_n rfl rfl) ?_
    refine Ew_of (pcₚ := 19) (fun _ => x_bipush (z := 10) rfl (by decide)) ?_
    refine Ew_of (pcₚ := 20) (fun _ => x_iload_n rfl rfl) ?_
    refine v_inv H (o := 0) rfl rfl rfl rfl rfl rfl (by rfl) (C203 (D := puc 0 D) (N := puc 0 N) (HW_subc H oz_D6cls_20 oz_D6cls_29) (u0_8) ((eu0_8)) (show inr (10) from q_746) (show inr (a1) from h0) (fun z8 σ8 F8ₚ A8ₚ Hₚ Oₚ hS8 hA8 y8_0_8 ey8_0_8 pz8_0 pz8_1 pz8_2 => ⟨rfl, ?_⟩))
    refine v_backc (c := c) (s := s) H oz_D6cls_20 oz_D6cls_29 Hₚ Oₚ (fun F8 A8 H Oₚ eF8 eA8 => ?_)
    have O := OUT_trans O Oₚ
    -- Tags.fail
    have cF8 : SF oz_D6clsl_7 F F8 := SF_trans (SF_refl) (SF_gluc (ι := oz_D6clsl_8) oz_D6cls_29 hS8 eF8 (by decide +kernel)) (any_sub (lₚ := [(0, 8)]) (by decide +kernel))
    have mF8 := SFm_of cF8 oz_D6cls_28
    have cA8 : SA oz_D6clsl_3 A A8 := SA_trans (SA_refl) (SA_gluc (ι := oz_D6clsl_8) oz_D6cls_29 hA8 eA8 (by decide +kernel)) (any_subA (lₚ := []) (by decide +kernel))
    have mA8 := SAm_of cA8 oz_D6cls_15
    have r9 : (-2147483648 : Int) ≤ y8_0_8 ∧ y8_0_8 ≤ 2147483647 := rngE (show (-2147483648 : Int) ≤ F8 0 8 ∧ F8 0 8 ≤ 2147483647 from H.krg 0 8 (ltn len_V211_oz_D6cls rfl)) (show F8 0 8 = y8_0_8 from ((eF8 0 8).trans ey8_0_8))
    have : IMP (((z8) : Int) = 0) (¬((a3) < 4 ∨ (a2) = 1 ∧ 65540 < (a3)) ∧ ∃ pl0 X, TUb (ub8 ((w1))) ((u0_6)) ((a1)) ((a2)) ((a3)) (sc ((w3)) 0 ((u2_1))) (0) (pl0) (X) ∧ TUc (ub8 ((w1))) ((a1)) X ∧ sc ((w3)) 0 ((u2_1)) = sc ((w3)) 0 ((u2_1)) ++ X) := fun z => absurd z (by omega)
    have : IMP (((z8) : Int) ≠ 0) (((a3) < 4 ∨ (a2) = 1 ∧ 65540 < (a3)) ∧ ((z8) : Int) = 10 ∧ (y8_0_8) = (a1) ∨ ¬((a3) < 4 ∨ (a2) = 1 ∧ 65540 < (a3)) ∧ ∃ f0 pl0 X, TUb (ub8 ((w1))) ((u0_6)) ((a1)) ((a2)) ((a3)) (sc ((w3)) 0 ((u2_1))) (f0) (pl0) (X) ∧ (f0 ≠ 0 ∧ ((z8) : Int) = f0 ∧ (y8_0_8) = pl0 ∨ f0 = 0 ∧ ¬ TUc (ub8 ((w1))) ((a1)) X ∧ ((z8) : Int) = 11 ∧ (y8_0_8) = (a1) + 4)) := fun _ => .inl ⟨by omega, by omega, by omega⟩
    exact w_ireturn rfl (k (z8) _ _ _ _ _ _ _ H O (SD_refl) (SD_refl) (cF8) (cA8) ((((show F8 2 0 = F 2 0 from (eF8 2 0)))).trans (pf3)) (n3) (en3) (y8_0_8) (((eF8 0 8).trans ey8_0_8)) (u2_1) ((((show F8 2 1 = F 2 1 from (eF8 2 1))).trans (eu2_1))) (u2_2) ((((show F8 2 2 = F 2 2 from (eF8 2 2))).trans (eu2_2))) (w3) (((show A8 3 = A 3 from (eA8 3))).trans (ew3)) (show inr (z8) from pz8_0) (show 0 ≤ (z8) ∧ (z8) ≤ 12 from q_3406 pz8_1) (show 0 ≤ (u2_1) ∧ (u2_1) ≤ (n3) ∧ (n3) ≤ 65536 from h4) (show (u2_1) ≤ (u2_1) ∧ (u2_1) ≤ (u0_6) from q_735 h5) (show (u2_2) = 0 from h6) (show IMP ((z8) = 0) (¬(a3 < 4 ∨ a2 = 1 ∧ 65540 < a3) ∧ ∃ pl0 X, TUb (ub8 ((w1))) ((u0_6)) (a1) (a2) (a3) (sc ((w3)) 0 ((u2_1))) (0) (pl0) (X) ∧ TUc (ub8 ((w1))) (a1) X ∧ sc ((w3)) 0 ((u2_1)) = sc ((w3)) 0 ((u2_1)) ++ X) by assumption) (show IMP ((z8) ≠ 0) ((a3 < 4 ∨ a2 = 1 ∧ 65540 < a3) ∧ (z8) = 10 ∧ (y8_0_8) = a1 ∨ ¬(a3 < 4 ∨ a2 = 1 ∧ 65540 < a3) ∧ ∃ f0 pl0 X, TUb (ub8 ((w1))) ((u0_6)) (a1) (a2) (a3) (sc ((w3)) 0 ((u2_1))) (f0) (pl0) (X) ∧ (f0 ≠ 0 ∧ (z8) = f0 ∧ (y8_0_8) = pl0 ∨ f0 = 0 ∧ ¬ TUc (ub8 ((w1))) (a1) X ∧ (z8) = 11 ∧ (y8_0_8) = a1 + 4)) by assumption))
  · refine Ew_of (pcₚ := 6) (fun _ => x_iload_n rfl rfl) ?_
    refine Ew_of (pcₚ := 7) (fun _ => x_iconst rfl) ?_
    have hc24 : ∀ (ls : rO) (σ : rS) (F_c24 : hF) (A_c24 : hA) , rlook ls 0 = some (.ref (D 0)) → rlook ls 1 = some (I (a1)) → rlook ls 2 = some (I (a2)) → rlook ls 3 = some (I (a3)) → HW V211 σ D N F_c24 A_c24 → OUT (V211).length D N σE c s D N σ c s → SF [] F F_c24 → SA [] A A_c24 → (((a2) ≠ (1)) ∨ ((a2) = (1) ∧ (a3) ≤ (65540))) → Ew 211 (d + 4) 24 ls [] σ c s Q := by
     as_aux_lemma =>
      intro  ls σ F_c24 A_c24  lc24_0 lc24_1 lc24_2 lc24_3 H O hS_c24 hA_c24     jc24_0
      have cF_c24 : SF oz_D6clsl_7 F F_c24 := SF_trans (SF_refl) hS_c24 (any_sub (by decide +kernel))
      have mF_c24 := SFm_of cF_c24 oz_D6cls_28
      have cA_c24 : SA oz_D6clsl_3 A A_c24 := SA_trans (SA_refl) hA_c24 (any_subA (by decide +kernel))
      have mA_c24 := SAm_of cA_c24 oz_D6cls_15
      have hCl : ((sc ((w3)) 0 ((u2_1))).length : Int) = (u2_1) := by rw [sc_lenI (by omega)]; omega
      refine Ew_of (pcₚ := 25) (fun _ => x_aload_n rfl lc24_0) ?_
      refine v_g H (o := 0) (v := .ref (D 2)) rfl rfl rfl rfl rfl (vrf ((mF_c24 0 5 rfl).trans (pf2))) ?_
      refine v_g H (o := 2) (v := I (u2_1)) rfl rfl rfl rfl rfl (congrArg (fun z : Int => I z) (((hS_c24 2 1 rfl).trans (eu2_1)) : F_c24 2 1 = u2_1)) ?_
      refine Ew_of (pcₚ := 33) (fun _ => x_istore rfl) ?_
      refine Ew_of (pcₚ := 34) (fun _ => x_aload_n rfl (rk_o (lc24_0) rfl rfl)) ?_
      refine v_g H (o := 0) (v := I (u0_6)) rfl rfl rfl rfl rfl (congrArg (fun z : Int => I z) (((mF_c24 0 6 rfl).trans (eu0_6)) : F_c24 0 6 = u0_6)) ?_
      refine Ew_of (pcₚ := 39) (fun _ => x_iload rfl rk_s) ?_
      refine w_isub rfl ?_
      refine Ew_of (pcₚ := 42) (fun _ => x_istore rfl) ?_
      refine Ew_of (pcₚ := 43) (fun _ => x_iload_n rfl (rk_o (rk_o (lc24_1) rfl rfl) rfl rfl)) ?_
      refine Ew_of (pcₚ := 44) (fun _ => x_iconst rfl) ?_
      refine w_iadd rfl ?_
      refine Ew_of (pcₚ := 46) (fun _ => x_iload_n rfl (rk_o (rk_o (lc24_3) rfl rfl) rfl rfl)) ?_
      refine w_iadd rfl ?_
      refine Ew_of (pcₚ := 49) (fun _ => x_istore rfl) ?_
      have hc133 : ∀ (ls : rO) (σ : rS) (D_c133 N_c133 : Nat → Nat) (c_c133 s_c133 : Nat) (F_c133 : hF) (A_c133 : hA) , rlook ls 0 = some (.ref (D_c133 0)) → rlook ls 1 = some (I (a1)) → rlook ls 4 = some (I (u2_1)) → HW V211 σ D_c133 N_c133 F_c133 A_c133 → OUT (V211).length D N σE c s D_c133 N_c133 σ c_c133 s_c133 → SD [3] D D_c133 → SD [3] N N_c133 → SF [(0, 7), (0, 8), (2, 0), (2, 1), (2, 2)] F_c24 F_c133 → SA [3] A_c24 A_c133 → F_c133 2 0 = (D_c133 3 : Int) → ∀ mc133_3 : Int, (N_c133 3 : Int) = mc133_3 → ∀ yc133_2_1 : Int, F_c133 2 1 = yc133_2_1 → ∀ yc133_2_2 : Int, F_c133 2 2 = yc133_2_2 → ∀ wc133_3 : Int → Int, A_c133 3 = wc133_3 → (0 ≤ (yc133_2_1) ∧ (yc133_2_1) ≤ (mc133_3) ∧ (mc133_3) ≤ 65536) → ((u2_1) ≤ (yc133_2_1) ∧ (yc133_2_1) ≤ (u0_6)) → ((yc133_2_2) = 0) → (TUb (ub8 ((w1))) ((u0_6)) ((a1)) ((a2)) ((a3)) (sc ((w3)) 0 ((u2_1))) (0) (0) (sc ((wc133_3)) ((u2_1)) ((yc133_2_1)))) → (sc ((wc133_3)) 0 ((yc133_2_1)) = sc ((w3)) 0 ((u2_1)) ++ sc ((wc133_3)) ((u2_1)) ((yc133_2_1))) → Ew 211 (d + 4) 133 ls [] σ c_c133 s_c133 Q := by
       as_aux_lemma =>
        intro  ls σ D_c133 N_c133 c_c133 s_c133 F_c133 A_c133  lc133_0 lc133_1 lc133_4 H O hD_c133 hN_c133 hS_c133 hA_c133 pmc133_3 mc133_3 emc133_3 yc133_2_1 eyc133_2_1 yc133_2_2 eyc133_2_2 wc133_3 ewc133_3 jc133_0 jc133_1 jc133_2 jc133_3 jc133_4
        have cF_c133 : SF oz_D6clsl_7 F F_c133 := SF_trans (cF_c24) hS_c133 (any_sub (by decide +kernel))
        have mF_c133 := SFm_of cF_c133 oz_D6cls_28
        have cA_c133 : SA oz_D6clsl_3 A A_c133 := SA_trans (cA_c24) hA_c133 (any_subA (by decide +kernel))
        have mA_c133 := SAm_of cA_c133 oz_D6cls_15
        have cD_c133 : SD oz_D6clsl_3 D D_c133 := SD_trans (SD_refl) hD_c133 (any_subA (by decide +kernel))
        have mD_c133 := SDm_of cD_c133 oz_D6cls_15
        have cN_c133 : SD oz_D6clsl_3 N N_c133 := SD_trans (SD_refl) hN_c133 (any_subA (by decide +kernel))
        have mN_c133 := SDm_of cN_c133 oz_D6cls_15
        have r10 : (0 : Int) ≤ mc133_3 ∧ mc133_3 ≤ 1000000 := nleE (H.nle 3 (ltn len_V211_oz_D6cls rfl)) (show (N_c133 3 : Int) = mc133_3 from emc133_3)
        have r11 : (-2147483648 : Int) ≤ yc133_2_1 ∧ yc133_2_1 ≤ 2147483647 := rngE (show (-2147483648 : Int) ≤ F_c133 2 1 ∧ F_c133 2 1 ≤ 2147483647 from H.krg 2 1 (ltn len_V211_oz_D6cls rfl)) (show F_c133 2 1 = yc133_2_1 from (eyc133_2_1))
        have r12 : (0 : Int) ≤ yc133_2_2 ∧ yc133_2_2 ≤ 1 := rngE (show (0 : Int) ≤ F_c133 2 2 ∧ F_c133 2 2 ≤ 1 from H.krg 2 2 (ltn len_V211_oz_D6cls rfl)) (show F_c133 2 2 = yc133_2_2 from (eyc133_2_2))
        have k133 : TUb (ub8 ((w1))) ((u0_6)) ((a1)) ((a2)) ((a3)) (sc ((w3)) 0 ((u2_1))) (0) (0) (sc ((wc133_3)) ((u2_1)) ((yc133_2_1))) := jc133_3
        have k133b : sc ((wc133_3)) 0 ((yc133_2_1)) = sc ((w3)) 0 ((u2_1)) ++ sc ((wc133_3)) ((u2_1)) ((yc133_2_1)) := by assumption
        refine Ew_of (pcₚ := 134) (fun _ => x_aload_n rfl lc133_0) ?_
        refine v_g H (o := 0) (v := .ref (D_c133 2)) rfl rfl rfl rfl rfl (vrf ((mF_c133 0 5 rfl).trans ((pf2).trans (congrArg (fun q : Nat => (q : Int)) (mD_c133 2 rfl).symm)))) ?_
        refine v_g H (o := 2) (v := .ref (D_c133 3)) rfl rfl rfl rfl rfl (vrf (pmc133_3)) ?_
        refine Ew_of (pcₚ := 142) (fun _ => x_iload rfl lc133_4) ?_
        refine Ew_of (pcₚ := 143) (fun _ => x_aload_n rfl lc133_0) ?_
        refine v_g H (o := 0) (v := .ref (D_c133 2)) rfl rfl rfl rfl rfl (vrf ((mF_c133 0 5 rfl).trans ((pf2).trans (congrArg (fun q : Nat => (q : Int)) (mD_c133 2 rfl).symm)))) ?_
        refine v_g H (o := 2) (v := I (yc133_2_1)) rfl rfl rfl rfl rfl (congrArg (fun z : Int => I z) ((eyc133_2_1) : F_c133 2 1 = yc133_2_1)) ?_
        refine w_stat25 rfl rfl (by rfl) (C53_Br (D := puc 3 D_c133) (N := puc 3 N_c133) (HW_subc H oz_D6cls_21 oz_D6cls_30) (STC_out HT HE O) (mc133_3) (emc133_3) (wc133_3) (ewc133_3) (show inr (u2_1) from q_3408 h4 h5) (show inr (yc133_2_1) from q_38 jc133_0) (show 0 ≤ (u2_1) ∧ (u2_1) ≤ (yc133_2_1) ∧ (yc133_2_1) ≤ (mc133_3) from q_3407 h4 jc133_0 jc133_1) (fun z13 σ13 F13ₚ A13ₚ Hₚ Oₚ hS13 hA13 pz13_0 pz13_1 => ⟨rfl, ?_⟩))
        refine v_backc (c := c_c133) (s := s_c133) H oz_D6cls_21 oz_D6cls_30 Hₚ Oₚ (fun F13 A13 H Oₚ eF13 eA13 => ?_)
        have O := OUT_trans O Oₚ
        -- PackHouse.polynomialSum
        have cF13 : SF oz_D6clsl_7 F F13 := SF_trans (cF_c133) (SF_gluc (ι := oz_D6clsl_3) oz_D6cls_30 hS13 eF13 (by decide +kernel)) (any_sub (lₚ := []) (by decide +kernel))
        have mF13 := SFm_of cF13 oz_D6cls_28
        have cA13 : SA oz_D6clsl_3 A A13 := SA_trans (cA_c133) (SA_gluc (ι := oz_D6clsl_3) oz_D6cls_30 hA13 eA13 (by decide +kernel)) (any_subA (lₚ := []) (by decide +kernel))
        have mA13 := SAm_of cA13 oz_D6cls_15
        have hpo := pz13_1
        (try clear pz13_1)
        refine w_stat25 rfl rfl (by rfl) (C54 (D := puc 0 D_c133) (N := puc 0 N_c133) (HW_subc H oz_D6cls_22 oz_D6cls_31) (show inr (z13) from pz13_0) (fun z14 σ14 F14ₚ A14ₚ Hₚ Oₚ hS14 hA14 pz14_0 pz14_1 => ⟨rfl, ?_⟩))
        refine v_backc (c := c_c133) (s := s_c133) H oz_D6cls_22 oz_D6cls_31 Hₚ Oₚ (fun F14 A14 H Oₚ eF14 eA14 => ?_)
        have O := OUT_trans O Oₚ
        -- PackHouse.maskedSum
        have cF14 : SF oz_D6clsl_7 F F14 := SF_trans (cF13) (SF_gluc (ι := oz_D6clsl_9) oz_D6cls_31 hS14 eF14 (by decide +kernel)) (any_sub (lₚ := []) (by decide +kernel))
        have mF14 := SFm_of cF14 oz_D6cls_28
        have cA14 : SA oz_D6clsl_3 A A14 := SA_trans (cA13) (SA_gluc (ι := oz_D6clsl_9) oz_D6cls_31 hA14 eA14 (by decide +kernel)) (any_subA (lₚ := []) (by decide +kernel))
        have mA14 := SAm_of cA14 oz_D6cls_15
        have hms : IMP True ((z14) = MSK (PLS (sc ((wc133_3)) ((u2_1)) ((yc133_2_1))))) := fun _ => by rw [pz14_1, hpo, POL_L (b := (yc133_2_1)) (by omega) (by omega)]; rw [MSK_e]; rfl
        (try clear pz14_1)
        (try clear hpo)
        have hmi := pz14_0
        refine Ew_of (pcₚ := 157) (fun _ => x_istore rfl) ?_
        refine Ew_of (pcₚ := 159) (fun _ => x_iload rfl rk_s) ?_
        refine Ew_of (pcₚ := 160) (fun _ => x_aload_n rfl (rk_o (lc133_0) rfl rfl)) ?_
        refine v_g H (o := 0) (v := .ref (D_c133 1)) rfl rfl rfl rfl rfl (vrf ((mF14 0 3 rfl).trans ((pf1).trans (congrArg (fun q : Nat => (q : Int)) (mD_c133 1 rfl).symm)))) ?_
        refine Ew_of (pcₚ := 164) (fun _ => x_iload_n rfl (rk_o (lc133_1) rfl rfl)) ?_
        refine Ew_of (pcₚ := 165) (fun _ => x_iconst rfl) ?_
        refine w_iadd rfl ?_
        refine w_stat25 rfl rfl (by rfl) (C41_Br (D := puc 1 D_c133) (N := puc 1 N_c133) (HW_subc H oz_D6cls_23 oz_D6cls_32) (n1) ((congrArg (fun q : Nat => (q : Int)) (mN_c133 1 rfl)).trans (en1)) (w1) ((funext (mA14 1 rfl)).trans (ew1)) (show inr ((a1 + 4)) from q_3410 h3) (show 0 ≤ ((a1 + 4)) ∧ ((a1 + 4)) + 4 ≤ (n1) from q_3409 b7 h3) (fun z15 σ15 F15ₚ A15ₚ Hₚ Oₚ hS15 hA15 pz15_0 pz15_1 => ⟨rfl, ?_⟩))
        refine v_backc (c := c_c133) (s := s_c133) H oz_D6cls_23 oz_D6cls_32 Hₚ Oₚ (fun F15 A15 H Oₚ eF15 eA15 => ?_)
        have O := OUT_trans O Oₚ
        -- PackHouse.word
        have cF15 : SF oz_D6clsl_7 F F15 := SF_trans (cF14) (SF_gluc (ι := oz_D6clsl_10) oz_D6cls_32 hS15 eF15 (by decide +kernel)) (any_sub (lₚ := []) (by decide +kernel))
        have mF15 := SFm_of cF15 oz_D6cls_28
        have cA15 : SA oz_D6clsl_3 A A15 := SA_trans (cA14) (SA_gluc (ι := oz_D6clsl_10) oz_D6cls_32 hA15 eA15 (by decide +kernel)) (any_subA (lₚ := []) (by decide +kernel))
        have mA15 := SAm_of cA15 oz_D6cls_15
        have hwd : IMP True ((z15) % 4294967296 = nvl (ub8 ((w1))) ((a1) + 4) 4) := fun _ => wdm pz15_1
        (try clear pz15_1)
        have hwi := pz15_0
        refine w_icmpne (t := 176) rfl rfl (show inr (z14) from pz14_0) (show inr (z15) from pz15_0) (fun b16 => ?_) (fun b16 => ?_)
        · refine Ew_of (pcₚ := 177) (fun _ => x_aload_n rfl (rk_o (lc133_0) rfl rfl)) ?_
          refine Ew_of (pcₚ := 179) (fun _ => x_bipush (z := 11) rfl (by decide)) ?_
          refine Ew_of (pcₚ := 180) (fun _ => x_iload_n rfl (rk_o (lc133_1) rfl rfl)) ?_
          refine Ew_of (pcₚ := 181) (fun _ => x_iconst rfl) ?_
          refine w_iadd rfl ?_
          have r17 : (-2147483648 : Int) ≤ F_c133 0 8 ∧ F_c133 0 8 ≤ 2147483647 := rngE (show (-2147483648 : Int) ≤ F15 0 8 ∧ F15 0 8 ≤ 2147483647 from H.krg 0 8 (ltn len_V211_oz_D6cls rfl)) (show F15 0 8 = F_c133 0 8 from ((((show F15 0 8 = F14 0 8 from (eF15 0 8))).trans ((show F14 0 8 = F13 0 8 from (eF14 0 8)))).trans ((show F13 0 8 = F_c133 0 8 from (eF13 0 8)))))
          refine v_inv H (o := 0) rfl rfl rfl rfl rfl rfl (by rfl) (C203 (D := puc 0 D_c133) (N := puc 0 N_c133) (HW_subc H oz_D6cls_20 oz_D6cls_29) (F_c133 0 8) (((((show F15 0 8 = F14 0 8 from (eF15 0 8))).trans ((show F14 0 8 = F13 0 8 from (eF14 0 8)))).trans ((show F13 0 8 = F_c133 0 8 from (eF13 0 8))))) (show inr (11) from q_326) (show inr ((a1 + 4)) from q_3410 h3) (fun z18 σ18 F18ₚ A18ₚ Hₚ Oₚ hS18 hA18 y18_0_8 ey18_0_8 pz18_0 pz18_1 pz18_2 => ⟨rfl, ?_⟩))
          refine v_backc (c := c_c133) (s := s_c133) H oz_D6cls_20 oz_D6cls_29 Hₚ Oₚ (fun F18 A18 H Oₚ eF18 eA18 => ?_)
          have O := OUT_trans O Oₚ
          -- Tags.fail
          have cF18 : SF oz_D6clsl_7 F F18 := SF_trans (cF15) (SF_gluc (ι := oz_D6clsl_8) oz_D6cls_29 hS18 eF18 (by decide +kernel)) (any_sub (lₚ := [(0, 8)]) (by decide +kernel))
          have mF18 := SFm_of cF18 oz_D6cls_28
          have cA18 : SA oz_D6clsl_3 A A18 := SA_trans (cA15) (SA_gluc (ι := oz_D6clsl_8) oz_D6cls_29 hA18 eA18 (by decide +kernel)) (any_subA (lₚ := []) (by decide +kernel))
          have mA18 := SAm_of cA18 oz_D6cls_15
          have r19 : (-2147483648 : Int) ≤ y18_0_8 ∧ y18_0_8 ≤ 2147483647 := rngE (show (-2147483648 : Int) ≤ F18 0 8 ∧ F18 0 8 ≤ 2147483647 from H.krg 0 8 (ltn len_V211_oz_D6cls rfl)) (show F18 0 8 = y18_0_8 from ((eF18 0 8).trans ey18_0_8))
          have : IMP (((z18) : Int) = 0) (¬((a3) < 4 ∨ (a2) = 1 ∧ 65540 < (a3)) ∧ ∃ pl0 X, TUb (ub8 ((w1))) ((u0_6)) ((a1)) ((a2)) ((a3)) (sc ((w3)) 0 ((u2_1))) (0) (pl0) (X) ∧ TUc (ub8 ((w1))) ((a1)) X ∧ sc ((wc133_3)) 0 ((yc133_2_1)) = sc ((w3)) 0 ((u2_1)) ++ X) := fun z => by first | (have g_ := pz18_1; exact absurd (g_.symm.trans z) (by decide)) | exact ⟨by omega, 0, _, k133, TUcY (hms trivial) (hwd trivial) (by omega), k133b⟩
          have : IMP (((z18) : Int) ≠ 0) (((a3) < 4 ∨ (a2) = 1 ∧ 65540 < (a3)) ∧ ((z18) : Int) = 10 ∧ (y18_0_8) = (a1) ∨ ¬((a3) < 4 ∨ (a2) = 1 ∧ 65540 < (a3)) ∧ ∃ f0 pl0 X, TUb (ub8 ((w1))) ((u0_6)) ((a1)) ((a2)) ((a3)) (sc ((w3)) 0 ((u2_1))) (f0) (pl0) (X) ∧ (f0 ≠ 0 ∧ ((z18) : Int) = f0 ∧ (y18_0_8) = pl0 ∨ f0 = 0 ∧ ¬ TUc (ub8 ((w1))) ((a1)) X ∧ ((z18) : Int) = 11 ∧ (y18_0_8) = (a1) + 4)) := fun z => by first | exact absurd rfl z | exact .inr ⟨by omega, 0, 0, _, k133, .inr ⟨rfl, TUcN (hms trivial) (hwd trivial) hmi hwi (by omega), by omega, by omega⟩⟩
          exact w_ireturn rfl (k (z18) _ _ _ _ _ _ _ H O (cD_c133) (cN_c133) (cF18) (cA18) (((((((show F18 2 0 = F15 2 0 from (eF18 2 0))).trans ((show F15 2 0 = F14 2 0 from (eF15 2 0)))).trans ((show F14 2 0 = F13 2 0 from (eF14 2 0)))).trans ((show F13 2 0 = F_c133 2 0 from (eF13 2 0))))).trans (pmc133_3)) (mc133_3) (emc133_3) (y18_0_8) (((eF18 0 8).trans ey18_0_8)) (yc133_2_1) (((((((show F18 2 1 = F15 2 1 from (eF18 2 1))).trans ((show F15 2 1 = F14 2 1 from (eF15 2 1)))).trans ((show F14 2 1 = F13 2 1 from (eF14 2 1)))).trans ((show F13 2 1 = F_c133 2 1 from (eF13 2 1)))).trans (eyc133_2_1))) (yc133_2_2) (((((((show F18 2 2 = F15 2 2 from (eF18 2 2))).trans ((show F15 2 2 = F14 2 2 from (eF15 2 2)))).trans ((show F14 2 2 = F13 2 2 from (eF14 2 2)))).trans ((show F13 2 2 = F_c133 2 2 from (eF13 2 2)))).trans (eyc133_2_2))) (wc133_3) (((show A18 3 = A15 3 from (eA18 3))).trans (((show A15 3 = A14 3 from (eA15 3))).trans (((show A14 3 = A13 3 from (eA14 3))).trans (((show A13 3 = A_c133 3 from (eA13 3).trans (funext (hA13 0 rfl)))).trans (ewc133_3))))) (show inr (z18) from pz18_0) (show 0 ≤ (z18) ∧ (z18) ≤ 12 from q_3411 pz18_1) (show 0 ≤ (yc133_2_1) ∧ (yc133_2_1) ≤ (mc133_3) ∧ (mc133_3) ≤ 65536 from jc133_0) (show (u2_1) ≤ (yc133_2_1) ∧ (yc133_2_1) ≤ (u0_6) from jc133_1) (show (yc133_2_2) = 0 from jc133_2) (show IMP ((z18) = 0) (¬(a3 < 4 ∨ a2 = 1 ∧ 65540 < a3) ∧ ∃ pl0 X, TUb (ub8 ((w1))) ((u0_6)) (a1) (a2) (a3) (sc ((w3)) 0 ((u2_1))) (0) (pl0) (X) ∧ TUc (ub8 ((w1))) (a1) X ∧ sc ((wc133_3)) 0 ((yc133_2_1)) = sc ((w3)) 0 ((u2_1)) ++ X) by assumption) (show IMP ((z18) ≠ 0) ((a3 < 4 ∨ a2 = 1 ∧ 65540 < a3) ∧ (z18) = 10 ∧ (y18_0_8) = a1 ∨ ¬(a3 < 4 ∨ a2 = 1 ∧ 65540 < a3) ∧ ∃ f0 pl0 X, TUb (ub8 ((w1))) ((u0_6)) (a1) (a2) (a3) (sc ((w3)) 0 ((u2_1))) (f0) (pl0) (X) ∧ (f0 ≠ 0 ∧ (z18) = f0 ∧ (y18_0_8) = pl0 ∨ f0 = 0 ∧ ¬ TUc (ub8 ((w1))) (a1) X ∧ (z18) = 11 ∧ (y18_0_8) = a1 + 4)) by assumption))
        · refine Ew_of (pcₚ := 173) (fun _ => x_iconst rfl) ?_
          refine Ew_of (pcₚ := 185) (fun _ => x_goto rfl rfl) ?_
          have : IMP (((0) : Int) = 0) (¬((a3) < 4 ∨ (a2) = 1 ∧ 65540 < (a3)) ∧ ∃ pl0 X, TUb (ub8 ((w1))) ((u0_6)) ((a1)) ((a2)) ((a3)) (sc ((w3)) 0 ((u2_1))) (0) (pl0) (X) ∧ TUc (ub8 ((w1))) ((a1)) X ∧ sc ((wc133_3)) 0 ((yc133_2_1)) = sc ((w3)) 0 ((u2_1)) ++ X) := fun z => by first | (have g_ := pz18_1; exact absurd (g_.symm.trans z) (by decide)) | exact ⟨by omega, 0, _, k133, TUcY (hms trivial) (hwd trivial) (by omega), k133b⟩
          have r20 : (-2147483648 : Int) ≤ F_c133 0 8 ∧ F_c133 0 8 ≤ 2147483647 := rngE (show (-2147483648 : Int) ≤ F15 0 8 ∧ F15 0 8 ≤ 2147483647 from H.krg 0 8 (ltn len_V211_oz_D6cls rfl)) (show F15 0 8 = F_c133 0 8 from ((((show F15 0 8 = F14 0 8 from (eF15 0 8))).trans ((show F14 0 8 = F13 0 8 from (eF14 0 8)))).trans ((show F13 0 8 = F_c133 0 8 from (eF13 0 8)))))
          have : IMP (((0) : Int) ≠ 0) (((a3) < 4 ∨ (a2) = 1 ∧ 65540 < (a3)) ∧ ((0) : Int) = 10 ∧ (F_c133 0 8) = (a1) ∨ ¬((a3) < 4 ∨ (a2) = 1 ∧ 65540 < (a3)) ∧ ∃ f0 pl0 X, TUb (ub8 ((w1))) ((u0_6)) ((a1)) ((a2)) ((a3)) (sc ((w3)) 0 ((u2_1))) (f0) (pl0) (X) ∧ (f0 ≠ 0 ∧ ((0) : Int) = f0 ∧ (F_c133 0 8) = pl0 ∨ f0 = 0 ∧ ¬ TUc (ub8 ((w1))) ((a1)) X ∧ ((0) : Int) = 11 ∧ (F_c133 0 8) = (a1) + 4)) := fun z => by first | exact absurd rfl z | exact .inr ⟨by omega, 0, 0, _, k133, .inr ⟨rfl, TUcN (hms trivial) (hwd trivial) hmi hwi (by omega), by omega, by omega⟩⟩
          exact w_ireturn rfl (k (0) _ _ _ _ _ _ _ H O (cD_c133) (cN_c133) (cF15) (cA15) ((((((show F15 2 0 = F14 2 0 from (eF15 2 0))).trans ((show F14 2 0 = F13 2 0 from (eF14 2 0)))).trans ((show F13 2 0 = F_c133 2 0 from (eF13 2 0))))).trans (pmc133_3)) (mc133_3) (emc133_3) (F_c133 0 8) (((((show F15 0 8 = F14 0 8 from (eF15 0 8))).trans ((show F14 0 8 = F13 0 8 from (eF14 0 8)))).trans ((show F13 0 8 = F_c133 0 8 from (eF13 0 8))))) (yc133_2_1) ((((((show F15 2 1 = F14 2 1 from (eF15 2 1))).trans ((show F14 2 1 = F13 2 1 from (eF14 2 1)))).trans ((show F13 2 1 = F_c133 2 1 from (eF13 2 1)))).trans (eyc133_2_1))) (yc133_2_2) ((((((show F15 2 2 = F14 2 2 from (eF15 2 2))).trans ((show F14 2 2 = F13 2 2 from (eF14 2 2)))).trans ((show F13 2 2 = F_c133 2 2 from (eF13 2 2)))).trans (eyc133_2_2))) (wc133_3) (((show A15 3 = A14 3 from (eA15 3))).trans (((show A14 3 = A13 3 from (eA14 3))).trans (((show A13 3 = A_c133 3 from (eA13 3).trans (funext (hA13 0 rfl)))).trans (ewc133_3)))) (show inr (0) from q_2) (show 0 ≤ (0) ∧ (0) ≤ 12 by first | exact q_2813 | omega) (show 0 ≤ (yc133_2_1) ∧ (yc133_2_1) ≤ (mc133_3) ∧ (mc133_3) ≤ 65536 from jc133_0) (show (u2_1) ≤ (yc133_2_1) ∧ (yc133_2_1) ≤ (u0_6) from jc133_1) (show (yc133_2_2) = 0 from jc133_2) (show IMP ((0) = 0) (¬(a3 < 4 ∨ a2 = 1 ∧ 65540 < a3) ∧ ∃ pl0 X, TUb (ub8 ((w1))) ((u0_6)) (a1) (a2) (a3) (sc ((w3)) 0 ((u2_1))) (0) (pl0) (X) ∧ TUc (ub8 ((w1))) (a1) X ∧ sc ((wc133_3)) 0 ((yc133_2_1)) = sc ((w3)) 0 ((u2_1)) ++ X) by assumption) (show IMP ((0) ≠ 0) ((a3 < 4 ∨ a2 = 1 ∧ 65540 < a3) ∧ (0) = 10 ∧ (F_c133 0 8) = a1 ∨ ¬(a3 < 4 ∨ a2 = 1 ∧ 65540 < a3) ∧ ∃ f0 pl0 X, TUb (ub8 ((w1))) ((u0_6)) (a1) (a2) (a3) (sc ((w3)) 0 ((u2_1))) (f0) (pl0) (X) ∧ (f0 ≠ 0 ∧ (0) = f0 ∧ (F_c133 0 8) = pl0 ∨ f0 = 0 ∧ ¬ TUc (ub8 ((w1))) (a1) X ∧ (0) = 11 ∧ (F_c133 0 8) = a1 + 4)) by assumption))
      refine Ew_of (pcₚ := 50) (fun _ => x_iload_n rfl (rk_o (rk_o (rk_o (lc24_2) rfl rfl) rfl rfl) rfl rfl)) ?_
      refine w_ifne (t := 94) rfl rfl (show inr (a2) from h1) (fun b21 => ?_) (fun b21 => ?_)
      · refine Ew_of (pcₚ := 95) (fun _ => x_iload_n rfl (rk_o (rk_o (rk_o (lc24_3) rfl rfl) rfl rfl) rfl rfl)) ?_
        refine Ew_of (pcₚ := 96) (fun _ => x_iconst rfl) ?_
        refine w_isub rfl ?_
        refine Ew_of (pcₚ := 99) (fun _ => x_iload rfl (rk_o (rk_s) rfl rfl)) ?_
        refine w_icmple (t := 115) rfl rfl (show inr ((a3 - 4)) from q_3413 b7 h3) (show inr ((u0_6 - u2_1)) from q_3412 h4 h5) (fun b22 => ?_) (fun b22 => ?_)
        · refine Ew_of (pcₚ := 116) (fun _ => x_aload_n rfl (rk_o (rk_o (rk_o (lc24_0) rfl rfl) rfl rfl) rfl rfl)) ?_
          refine v_g H (o := 0) (v := .ref (D 2)) rfl rfl rfl rfl rfl (vrf ((mF_c24 0 5 rfl).trans (pf2))) ?_
          refine Ew_of (pcₚ := 120) (fun _ => x_aload_n rfl (rk_o (rk_o (rk_o (lc24_0) rfl rfl) rfl rfl) rfl rfl)) ?_
          refine v_g H (o := 0) (v := .ref (D 1)) rfl rfl rfl rfl rfl (vrf ((mF_c24 0 3 rfl).trans (pf1))) ?_
          refine Ew_of (pcₚ := 124) (fun _ => x_iload_n rfl (rk_o (rk_o (rk_o (lc24_1) rfl rfl) rfl rfl) rfl rfl)) ?_
          refine Ew_of (pcₚ := 126) (fun _ => x_bipush (z := 8) rfl (by decide)) ?_
          refine w_iadd rfl ?_
          refine Ew_of (pcₚ := 128) (fun _ => x_iload_n rfl (rk_o (rk_o (rk_o (lc24_3) rfl rfl) rfl rfl) rfl rfl)) ?_
          refine Ew_of (pcₚ := 129) (fun _ => x_iconst rfl) ?_
          refine w_isub rfl ?_
          refine v_inv H (o := 2) rfl rfl rfl rfl rfl rfl (by rfl) (C161_Br (D := puc 786946 D) (N := puc 786946 N) (HW_subc H oz_D6cls_24 oz_D6cls_33) (((hS_c24 2 0 rfl)).trans (pf3)) (n1) (en1) (n3) (en3) (u2_1) (((hS_c24 2 1 rfl).trans (eu2_1))) (u2_2) (((hS_c24 2 2 rfl).trans (eu2_2))) (w1) ((funext (mA_c24 1 rfl)).trans (ew1)) (w3) ((funext (hA_c24 3 rfl)).trans (ew3)) (show inr ((a1 + 8)) from q_3415 h3) (show inr ((a3 - 4)) from q_3413 b7 h3) (show 0 ≤ (u2_1) ∧ (u2_1) ≤ (n3) ∧ (n3) ≤ 65536 from h4) (show ((a3 - 4)) < 0 ∨ 0 ≤ ((a1 + 8)) ∧ ((a1 + 8)) + ((a3 - 4)) ≤ (n1) from q_3414 h3) (fun σ23 D23ₚ N23ₚ F23ₚ A23ₚ c23 s23 Hₚ Oₚ hD23 hN23 hS23 hA23 pm23_2 m23_2 em23_2 y23_0_1 ey23_0_1 y23_0_2 ey23_0_2 w23_2 ew23_2 pz23_0 pz23_1 pz23_2 pz23_3 => ⟨rfl, ?_⟩))
          refine v_backMc (c := c) (s := s) H oz_D6cls_24 oz_D6cls_33 Hₚ Oₚ hD23 oz_D6cls_25 (fun D23 N23 F23 A23 H Oₚ eD23 eN23 eF23 eA23 => ?_)
          have O := OUT_trans O Oₚ
          -- Row.addPart
          have cF23 : SF oz_D6clsl_7 F F23 := SF_trans (cF_c24) (SF_gluc (ι := oz_D6clsl_11) oz_D6cls_33 hS23 eF23 (by decide +kernel)) (any_sub (lₚ := [(2, 0), (2, 1), (2, 2)]) (by decide +kernel))
          have mF23 := SFm_of cF23 oz_D6cls_28
          have cA23 : SA oz_D6clsl_3 A A23 := SA_trans (cA_c24) (SA_gluc (ι := oz_D6clsl_11) oz_D6cls_33 hA23 eA23 (by decide +kernel)) (any_subA (lₚ := [3]) (by decide +kernel))
          have mA23 := SAm_of cA23 oz_D6cls_15
          have cD23 : SD oz_D6clsl_3 D D23 := SD_trans (SD_refl) (SD_gluc (ι := oz_D6clsl_11) oz_D6cls_33 hD23 eD23 (by decide +kernel)) (any_subA (lₚ := [3]) (by decide +kernel))
          have mD23 := SDm_of cD23 oz_D6cls_15
          have cN23 : SD oz_D6clsl_3 N N23 := SD_trans (SD_refl) (SD_gluc (ι := oz_D6clsl_11) oz_D6cls_33 hN23 eN23 (by decide +kernel)) (any_subA (lₚ := [3]) (by decide +kernel))
          have mN23 := SDm_of cN23 oz_D6cls_15
          have pf23_2_0 : F23 2 0 = (D23 3 : Int) := (eF23 2 0).trans (pm23_2.trans (congrArg (fun q : Nat => (q : Int)) (eD23 3).symm))
          have r24 : (0 : Int) ≤ m23_2 ∧ m23_2 ≤ 1000000 := nleE (H.nle 3 (ltn len_V211_oz_D6cls rfl)) (show (N23 3 : Int) = m23_2 from (congrArg (fun q : Nat => (q : Int)) (eN23 3)).trans em23_2)
          have r25 : (-2147483648 : Int) ≤ y23_0_1 ∧ y23_0_1 ≤ 2147483647 := rngE (show (-2147483648 : Int) ≤ F23 2 1 ∧ F23 2 1 ≤ 2147483647 from H.krg 2 1 (ltn len_V211_oz_D6cls rfl)) (show F23 2 1 = y23_0_1 from ((eF23 2 1).trans ey23_0_1))
          have r26 : (0 : Int) ≤ y23_0_2 ∧ y23_0_2 ≤ 1 := rngE (show (0 : Int) ≤ F23 2 2 ∧ F23 2 2 ≤ 1 from H.krg 2 2 (ltn len_V211_oz_D6cls rfl)) (show F23 2 2 = y23_0_2 from ((eF23 2 2).trans ey23_0_2))
          have : TUb (ub8 ((w1))) ((u0_6)) ((a1)) ((a2)) ((a3)) (sc ((w3)) 0 ((u2_1))) (0) (0) (sc ((w23_2)) ((u2_1)) ((y23_0_1))) := by first | exact .inl ⟨by omega, _, _, _, h91, .inr ⟨rfl, rfl, rfl⟩⟩ | exact .inr ⟨by omega, .inr ⟨by rw [hCl]; omega, rfl, by have h := (RAP_from (a := (u2_1)) (pz23_3 (by omega)) (by omega) (by omega) (by rw [sc_lenI (by omega)]; omega) (by omega)).2; rw [sc_nil (Int.le_refl _), List.nil_append, show (a1) + 8 + ((a3) - 4) = (a1) + 4 + (a3) by omega] at h; exact h.trans sc_u⟩⟩
          have : sc ((w23_2)) 0 ((y23_0_1)) = sc ((w3)) 0 ((u2_1)) ++ sc ((w23_2)) ((u2_1)) ((y23_0_1)) := by first | (rw [sc_cat (b := (u2_1)) (by omega) (by omega), sc_same (g := (w3)) (fun i x y => hbs i x (by omega))]) | (rw [sc_cat (b := (u2_1)) (by omega) (by omega), sc_same (g := (w3)) (fun i x y => pz23_2 i x (by omega))])
          have : (y23_0_2) = 0 := by first | omega | exact (RAP_from (a := (u2_1)) (pz23_3 (by omega)) (by omega) (by omega) (by rw [sc_lenI (by omega)]; omega) (by omega)).1
          exact hc133  _ _ _ _ _ _ _ _  ((rk_o (rk_o (rk_o (lc24_0) rfl rfl) rfl rfl) rfl rfl).trans (congrArg (fun q : Nat => some (Value.ref q)) (mD23 0 rfl).symm)) (rk_o (rk_o (rk_o (lc24_1) rfl rfl) rfl rfl) rfl rfl) (rk_o (rk_o (rk_s) rfl rfl) rfl rfl) H O (SD_trans (SD_refl) (SD_gluc (ι := oz_D6clsl_11) oz_D6cls_33 hD23 eD23 (by decide +kernel)) (any_subA (lₚ := [3]) (by decide +kernel))) (SD_trans (SD_refl) (SD_gluc (ι := oz_D6clsl_11) oz_D6cls_33 hN23 eN23 (by decide +kernel)) (any_subA (lₚ := [3]) (by decide +kernel))) (SF_trans (SF_refl) (SF_gluc (ι := oz_D6clsl_11) oz_D6cls_33 hS23 eF23 (by decide +kernel)) (any_sub (lₚ := [(2, 0), (2, 1), (2, 2)]) (by decide +kernel))) (SA_trans (SA_refl) (SA_gluc (ι := oz_D6clsl_11) oz_D6cls_33 hA23 eA23 (by decide +kernel)) (any_subA (lₚ := [3]) (by decide +kernel))) (pf23_2_0) (m23_2) ((congrArg (fun q : Nat => (q : Int)) (eN23 3)).trans em23_2) (y23_0_1) (((eF23 2 1).trans ey23_0_1)) (y23_0_2) (((eF23 2 2).trans ey23_0_2)) (w23_2) ((eA23 3).trans ew23_2) (show 0 ≤ (y23_0_1) ∧ (y23_0_1) ≤ (m23_2) ∧ (m23_2) ≤ 65536 from pz23_0) (show (u2_1) ≤ (y23_0_1) ∧ (y23_0_1) ≤ (u0_6) from q_3416 b22 b7 h5 pz23_1) (show (y23_0_2) = 0 by omega) (show TUb (ub8 ((w1))) ((u0_6)) ((a1)) ((a2)) ((a3)) (sc ((w3)) 0 ((u2_1))) (0) (0) (sc ((w23_2)) ((u2_1)) ((y23_0_1))) by assumption) (show sc ((w23_2)) 0 ((y23_0_1)) = sc ((w3)) 0 ((u2_1)) ++ sc ((w23_2)) ((u2_1)) ((y23_0_1)) by assumption)
        · refine Ew_of (pcₚ := 103) (fun _ => x_aload_n rfl (rk_o (rk_o (rk_o (lc24_0) rfl rfl) rfl rfl) rfl rfl)) ?_
          refine Ew_of (pcₚ := 104) (fun _ => x_iconst rfl) ?_
          refine Ew_of (pcₚ := 105) (fun _ => x_iload_n rfl (rk_o (rk_o (rk_o (lc24_1) rfl rfl) rfl rfl) rfl rfl)) ?_
          refine Ew_of (pcₚ := 107) (fun _ => x_bipush (z := 8) rfl (by decide)) ?_
          refine w_iadd rfl ?_
          refine Ew_of (pcₚ := 110) (fun _ => x_iload rfl (rk_o (rk_s) rfl rfl)) ?_
          refine w_iadd rfl ?_
          refine v_inv H (o := 0) rfl rfl rfl rfl rfl rfl (by rfl) (C203 (D := puc 0 D) (N := puc 0 N) (HW_subc H oz_D6cls_20 oz_D6cls_29) (u0_8) (((hS_c24 0 8 rfl).trans (eu0_8))) (show inr (3) from q_246) (show inr (((a1 + 8) + (u0_6 - u2_1))) from q_3417 b22 h3 h5) (fun z27 σ27 F27ₚ A27ₚ Hₚ Oₚ hS27 hA27 y27_0_8 ey27_0_8 pz27_0 pz27_1 pz27_2 => ⟨rfl, ?_⟩))
          refine v_backc (c := c) (s := s) H oz_D6cls_20 oz_D6cls_29 Hₚ Oₚ (fun F27 A27 H Oₚ eF27 eA27 => ?_)
          have O := OUT_trans O Oₚ
          -- Tags.fail
          have cF27 : SF oz_D6clsl_7 F F27 := SF_trans (cF_c24) (SF_gluc (ι := oz_D6clsl_8) oz_D6cls_29 hS27 eF27 (by decide +kernel)) (any_sub (lₚ := [(0, 8)]) (by decide +kernel))
          have mF27 := SFm_of cF27 oz_D6cls_28
          have cA27 : SA oz_D6clsl_3 A A27 := SA_trans (cA_c24) (SA_gluc (ι := oz_D6clsl_8) oz_D6cls_29 hA27 eA27 (by decide +kernel)) (any_subA (lₚ := []) (by decide +kernel))
          have mA27 := SAm_of cA27 oz_D6cls_15
          have r28 : (-2147483648 : Int) ≤ y27_0_8 ∧ y27_0_8 ≤ 2147483647 := rngE (show (-2147483648 : Int) ≤ F27 0 8 ∧ F27 0 8 ≤ 2147483647 from H.krg 0 8 (ltn len_V211_oz_D6cls rfl)) (show F27 0 8 = y27_0_8 from ((eF27 0 8).trans ey27_0_8))
          have : IMP (((z27) : Int) = 0) (¬((a3) < 4 ∨ (a2) = 1 ∧ 65540 < (a3)) ∧ ∃ pl0 X, TUb (ub8 ((w1))) ((u0_6)) ((a1)) ((a2)) ((a3)) (sc ((w3)) 0 ((u2_1))) (0) (pl0) (X) ∧ TUc (ub8 ((w1))) ((a1)) X ∧ sc ((w3)) 0 ((u2_1)) = sc ((w3)) 0 ((u2_1)) ++ X) := fun z => absurd z (by omega)
          have : IMP (((z27) : Int) ≠ 0) (((a3) < 4 ∨ (a2) = 1 ∧ 65540 < (a3)) ∧ ((z27) : Int) = 10 ∧ (y27_0_8) = (a1) ∨ ¬((a3) < 4 ∨ (a2) = 1 ∧ 65540 < (a3)) ∧ ∃ f0 pl0 X, TUb (ub8 ((w1))) ((u0_6)) ((a1)) ((a2)) ((a3)) (sc ((w3)) 0 ((u2_1))) (f0) (pl0) (X) ∧ (f0 ≠ 0 ∧ ((z27) : Int) = f0 ∧ (y27_0_8) = pl0 ∨ f0 = 0 ∧ ¬ TUc (ub8 ((w1))) ((a1)) X ∧ ((z27) : Int) = 11 ∧ (y27_0_8) = (a1) + 4)) := fun z => .inr ⟨by omega, 3, (y27_0_8), [], .inr ⟨by omega, .inl ⟨by rw [hCl]; omega, rfl, by rw [hCl]; omega⟩⟩, .inl ⟨by omega, by omega, rfl⟩⟩
          exact w_ireturn rfl (k (z27) _ _ _ _ _ _ _ H O (SD_refl) (SD_refl) (cF27) (cA27) (((((show F27 2 0 = F_c24 2 0 from (eF27 2 0))).trans (hS_c24 2 0 rfl))).trans (pf3)) (n3) (en3) (y27_0_8) (((eF27 0 8).trans ey27_0_8)) (u2_1) (((((show F27 2 1 = F_c24 2 1 from (eF27 2 1))).trans (hS_c24 2 1 rfl)).trans (eu2_1))) (u2_2) (((((show F27 2 2 = F_c24 2 2 from (eF27 2 2))).trans (hS_c24 2 2 rfl)).trans (eu2_2))) (w3) (((show A27 3 = A_c24 3 from (eA27 3))).trans ((funext (hA_c24 3 rfl)).trans (ew3))) (show inr (z27) from pz27_0) (show 0 ≤ (z27) ∧ (z27) ≤ 12 from q_3418 pz27_1) (show 0 ≤ (u2_1) ∧ (u2_1) ≤ (n3) ∧ (n3) ≤ 65536 from h4) (show (u2_1) ≤ (u2_1) ∧ (u2_1) ≤ (u0_6) from q_735 h5) (show (u2_2) = 0 from h6) (show IMP ((z27) = 0) (¬(a3 < 4 ∨ a2 = 1 ∧ 65540 < a3) ∧ ∃ pl0 X, TUb (ub8 ((w1))) ((u0_6)) (a1) (a2) (a3) (sc ((w3)) 0 ((u2_1))) (0) (pl0) (X) ∧ TUc (ub8 ((w1))) (a1) X ∧ sc ((w3)) 0 ((u2_1)) = sc ((w3)) 0 ((u2_1)) ++ X) by assumption) (show IMP ((z27) ≠ 0) ((a3 < 4 ∨ a2 = 1 ∧ 65540 < a3) ∧ (z27) = 10 ∧ (y27_0_8) = a1 ∨ ¬(a3 < 4 ∨ a2 = 1 ∧ 65540 < a3) ∧ ∃ f0 pl0 X, TUb (ub8 ((w1))) ((u0_6)) (a1) (a2) (a3) (sc ((w3)) 0 ((u2_1))) (f0) (pl0) (X) ∧ (f0 ≠ 0 ∧ (z27) = f0 ∧ (y27_0_8) = pl0 ∨ f0 = 0 ∧ ¬ TUc (ub8 ((w1))) (a1) X ∧ (z27) = 11 ∧ (y27_0_8) = a1 + 4)) by assumption))
      · refine Ew_of (pcₚ := 54) (fun _ => x_aload_n rfl (rk_o (rk_o (rk_o (lc24_0) rfl rfl) rfl rfl) rfl rfl)) ?_
        refine Ew_of (pcₚ := 55) (fun _ => x_iload_n rfl (rk_o (rk_o (rk_o (lc24_1) rfl rfl) rfl rfl) rfl rfl)) ?_
        refine Ew_of (pcₚ := 57) (fun _ => x_bipush (z := 8) rfl (by decide)) ?_
        refine w_iadd rfl ?_
        refine Ew_of (pcₚ := 60) (fun _ => x_iload rfl rk_s) ?_
        refine Ew_of (pcₚ := 62) (fun _ => x_ldc (z := 65536) rfl (by decide)) ?_
        refine Ew_of (pcₚ := 64) (fun _ => x_iload rfl (rk_o (rk_s) rfl rfl)) ?_
        refine v_min rfl rfl (show inr (65536) from q_52) (show inr ((u0_6 - u2_1)) from q_3412 h4 h5) (fun z29 gz29 => ?_)
        have hmn : (z29) = (if 65536 ≤ (u0_6) - ((sc ((w3)) 0 ((u2_1))).length : Int) then 65536 else (u0_6) - ((sc ((w3)) 0 ((u2_1))).length : Int)) := by rw [hCl]; split <;> omega
        refine v_inv H (o := 0) rfl rfl rfl rfl rfl rfl (by rfl) (C206 (D := puc 403177984 D) (N := puc 403177984 N) (HW_subc H oz_D6cls_26 oz_D6cls_34) ((mF_c24 0 3 rfl).trans (pf1)) ((mF_c24 0 5 rfl).trans (pf2)) (((hS_c24 2 0 rfl)).trans (pf3)) (n1) (en1) (n3) (en3) (u0_8) (((hS_c24 0 8 rfl).trans (eu0_8))) (u2_1) (((hS_c24 2 1 rfl).trans (eu2_1))) (u2_2) (((hS_c24 2 2 rfl).trans (eu2_2))) (w1) ((funext (mA_c24 1 rfl)).trans (ew1)) (w3) ((funext (hA_c24 3 rfl)).trans (ew3)) (show inr ((a1 + 8)) from q_3415 h3) (show inr (((a1 + 4) + a3)) from q_3422 b7 h3) (show inr (z29) from q_3421 gz29 h5) (show 0 ≤ ((a1 + 8)) ∧ ((a1 + 8)) ≤ (((a1 + 4) + a3)) ∧ (((a1 + 4) + a3)) ≤ (n1) ∧ (n1) ≤ 65536 from q_3420 b7 h3) (show 0 ≤ (u2_1) ∧ (u2_1) ≤ (n3) ∧ (n3) ≤ 65536 from h4) (show (z29) ≤ 65536 from q_3419 gz29) (show (u2_2) = 0 ∧ (u2_1) + (z29) ≤ 65536 by omega) (fun z30 σ30 D30ₚ N30ₚ F30ₚ A30ₚ c30 s30 Hₚ Oₚ hD30 hN30 hS30 hA30 pm30_3 m30_3 em30_3 y30_0_8 ey30_0_8 y30_2_1 ey30_2_1 y30_2_2 ey30_2_2 w30_3 ew30_3 pz30_0 pz30_1 pz30_2 pz30_3 pz30_4 pz30_5 pz30_6 pz30_7 pz30_8 pz30_9 => ⟨rfl, ?_⟩))
        refine v_backMc (c := c) (s := s) H oz_D6cls_26 oz_D6cls_34 Hₚ Oₚ hD30 oz_D6cls_27 (fun D30 N30 F30 A30 H Oₚ eD30 eN30 eF30 eA30 => ?_)
        have O := OUT_trans O Oₚ
        -- Tags.unpackBlock
        have cF30 : SF oz_D6clsl_7 F F30 := SF_trans (cF_c24) (SF_gluc (ι := oz_D6clsl_12) oz_D6cls_34 hS30 eF30 (by decide +kernel)) (any_sub (lₚ := [(0, 7), (0, 8), (2, 0), (2, 1), (2, 2)]) (by decide +kernel))
        have mF30 := SFm_of cF30 oz_D6cls_28
        have cA30 : SA oz_D6clsl_3 A A30 := SA_trans (cA_c24) (SA_gluc (ι := oz_D6clsl_12) oz_D6cls_34 hA30 eA30 (by decide +kernel)) (any_subA (lₚ := [3]) (by decide +kernel))
        have mA30 := SAm_of cA30 oz_D6cls_15
        have cD30 : SD oz_D6clsl_3 D D30 := SD_trans (SD_refl) (SD_gluc (ι := oz_D6clsl_12) oz_D6cls_34 hD30 eD30 (by decide +kernel)) (any_subA (lₚ := [3]) (by decide +kernel))
        have mD30 := SDm_of cD30 oz_D6cls_15
        have cN30 : SD oz_D6clsl_3 N N30 := SD_trans (SD_refl) (SD_gluc (ι := oz_D6clsl_12) oz_D6cls_34 hN30 eN30 (by decide +kernel)) (any_subA (lₚ := [3]) (by decide +kernel))
        have mN30 := SDm_of cN30 oz_D6cls_15
        have pf30_2_0 : F30 2 0 = (D30 3 : Int) := (eF30 2 0).trans (pm30_3.trans (congrArg (fun q : Nat => (q : Int)) (eD30 3).symm))
        have r31 : (0 : Int) ≤ m30_3 ∧ m30_3 ≤ 1000000 := nleE (H.nle 3 (ltn len_V211_oz_D6cls rfl)) (show (N30 3 : Int) = m30_3 from (congrArg (fun q : Nat => (q : Int)) (eN30 3)).trans em30_3)
        have r32 : (-2147483648 : Int) ≤ y30_0_8 ∧ y30_0_8 ≤ 2147483647 := rngE (show (-2147483648 : Int) ≤ F30 0 8 ∧ F30 0 8 ≤ 2147483647 from H.krg 0 8 (ltn len_V211_oz_D6cls rfl)) (show F30 0 8 = y30_0_8 from ((eF30 0 8).trans ey30_0_8))
        have r33 : (-2147483648 : Int) ≤ y30_2_1 ∧ y30_2_1 ≤ 2147483647 := rngE (show (-2147483648 : Int) ≤ F30 2 1 ∧ F30 2 1 ≤ 2147483647 from H.krg 2 1 (ltn len_V211_oz_D6cls rfl)) (show F30 2 1 = y30_2_1 from ((eF30 2 1).trans ey30_2_1))
        have r34 : (0 : Int) ≤ y30_2_2 ∧ y30_2_2 ≤ 1 := rngE (show (0 : Int) ≤ F30 2 2 ∧ F30 2 2 ≤ 1 from H.krg 2 2 (ltn len_V211_oz_D6cls rfl)) (show F30 2 2 = y30_2_2 from ((eF30 2 2).trans ey30_2_2))
        have hbf := pz30_6
        have hby := pz30_7
        have hbs := pz30_8
        rw [hmn] at hbf hby
        refine Ew_of (pcₚ := 72) (fun _ => x_istore rfl) ?_
        refine Ew_of (pcₚ := 74) (fun _ => x_iload rfl rk_s) ?_
        refine w_ifeq (t := 91) rfl rfl (show inr (z30) from pz30_0) (fun b35 => ?_) (fun b35 => ?_)
        · have h91 := hby (by omega)
          refine Ew_of (pcₚ := 133) (fun _ => x_goto rfl rfl) ?_
          have : TUb (ub8 ((w1))) ((u0_6)) ((a1)) ((a2)) ((a3)) (sc ((w3)) 0 ((u2_1))) (0) (0) (sc ((w30_3)) ((u2_1)) ((y30_2_1))) := by first | exact .inl ⟨by omega, _, _, _, h91, .inr ⟨rfl, rfl, rfl⟩⟩ | exact .inr ⟨by omega, .inr ⟨by rw [hCl]; omega, rfl, by have h := (RAP_from (a := (u2_1)) (pz23_3 (by omega)) (by omega) (by omega) (by rw [sc_lenI (by omega)]; omega) (by omega)).2; rw [sc_nil (Int.le_refl _), List.nil_append, show (a1) + 8 + ((a3) - 4) = (a1) + 4 + (a3) by omega] at h; exact h.trans sc_u⟩⟩
          have : sc ((w30_3)) 0 ((y30_2_1)) = sc ((w3)) 0 ((u2_1)) ++ sc ((w30_3)) ((u2_1)) ((y30_2_1)) := by first | (rw [sc_cat (b := (u2_1)) (by omega) (by omega), sc_same (g := (w3)) (fun i x y => hbs i x (by omega))]) | (rw [sc_cat (b := (u2_1)) (by omega) (by omega), sc_same (g := (w3)) (fun i x y => pz23_2 i x (by omega))])
          have : (y30_2_2) = 0 := by first | omega | exact (RAP_from (a := (u2_1)) (pz23_3 (by omega)) (by omega) (by omega) (by rw [sc_lenI (by omega)]; omega) (by omega)).1
          exact hc133  _ _ _ _ _ _ _ _  ((rk_o (rk_o (rk_o (rk_o (lc24_0) rfl rfl) rfl rfl) rfl rfl) rfl rfl).trans (congrArg (fun q : Nat => some (Value.ref q)) (mD30 0 rfl).symm)) (rk_o (rk_o (rk_o (rk_o (lc24_1) rfl rfl) rfl rfl) rfl rfl) rfl rfl) (rk_o (rk_o (rk_o (rk_s) rfl rfl) rfl rfl) rfl rfl) H O (SD_trans (SD_refl) (SD_gluc (ι := oz_D6clsl_12) oz_D6cls_34 hD30 eD30 (by decide +kernel)) (any_subA (lₚ := [3]) (by decide +kernel))) (SD_trans (SD_refl) (SD_gluc (ι := oz_D6clsl_12) oz_D6cls_34 hN30 eN30 (by decide +kernel)) (any_subA (lₚ := [3]) (by decide +kernel))) (SF_trans (SF_refl) (SF_gluc (ι := oz_D6clsl_12) oz_D6cls_34 hS30 eF30 (by decide +kernel)) (any_sub (lₚ := [(0, 7), (0, 8), (2, 0), (2, 1), (2, 2)]) (by decide +kernel))) (SA_trans (SA_refl) (SA_gluc (ι := oz_D6clsl_12) oz_D6cls_34 hA30 eA30 (by decide +kernel)) (any_subA (lₚ := [3]) (by decide +kernel))) (pf30_2_0) (m30_3) ((congrArg (fun q : Nat => (q : Int)) (eN30 3)).trans em30_3) (y30_2_1) (((eF30 2 1).trans ey30_2_1)) (y30_2_2) (((eF30 2 2).trans ey30_2_2)) (w30_3) ((eA30 3).trans ew30_3) (show 0 ≤ (y30_2_1) ∧ (y30_2_1) ≤ (m30_3) ∧ (m30_3) ≤ 65536 from pz30_2) (show (u2_1) ≤ (y30_2_1) ∧ (y30_2_1) ≤ (u0_6) by omega) (show (y30_2_2) = 0 from pz30_5) (show TUb (ub8 ((w1))) ((u0_6)) ((a1)) ((a2)) ((a3)) (sc ((w3)) 0 ((u2_1))) (0) (0) (sc ((w30_3)) ((u2_1)) ((y30_2_1))) by assumption) (show sc ((w30_3)) 0 ((y30_2_1)) = sc ((w3)) 0 ((u2_1)) ++ sc ((w30_3)) ((u2_1)) ((y30_2_1)) by assumption)
        · refine Ew_of (pcₚ := 79) (fun _ => x_iload rfl rk_s) ?_
          refine Ew_of (pcₚ := 80) (fun _ => x_iconst rfl) ?_
          refine w_icmpne (t := 88) rfl rfl (show inr (z30) from pz30_0) (show inr (1) from q_135) (fun b36 => ?_) (fun b36 => ?_)
          · refine Ew_of (pcₚ := 90) (fun _ => x_iload rfl rk_s) ?_
            have : IMP (((z30) : Int) = 0) (¬((a3) < 4 ∨ (a2) = 1 ∧ 65540 < (a3)) ∧ ∃ pl0 X, TUb (ub8 ((w1))) ((u0_6)) ((a1)) ((a2)) ((a3)) (sc ((w3)) 0 ((u2_1))) (0) (pl0) (X) ∧ TUc (ub8 ((w1))) ((a1)) X ∧ sc ((w30_3)) 0 ((y30_2_1)) = sc ((w3)) 0 ((u2_1)) ++ X) := fun z => absurd z (by omega)
            have : IMP (((z30) : Int) ≠ 0) (((a3) < 4 ∨ (a2) = 1 ∧ 65540 < (a3)) ∧ ((z30) : Int) = 10 ∧ (y30_0_8) = (a1) ∨ ¬((a3) < 4 ∨ (a2) = 1 ∧ 65540 < (a3)) ∧ ∃ f0 pl0 X, TUb (ub8 ((w1))) ((u0_6)) ((a1)) ((a2)) ((a3)) (sc ((w3)) 0 ((u2_1))) (f0) (pl0) (X) ∧ (f0 ≠ 0 ∧ ((z30) : Int) = f0 ∧ (y30_0_8) = pl0 ∨ f0 = 0 ∧ ¬ TUc (ub8 ((w1))) ((a1)) X ∧ ((z30) : Int) = 11 ∧ (y30_0_8) = (a1) + 4)) := fun z => .inr ⟨by omega, (z30), (y30_0_8), [], .inl ⟨by omega, (z30), _, _, hbf (by omega), .inl ⟨by omega, by omega, rfl⟩⟩, .inl ⟨z, rfl, rfl⟩⟩
            exact w_ireturn rfl (k (z30) _ _ _ _ _ _ _ H O (cD30) (cN30) (cF30) (cA30) (pf30_2_0) (m30_3) ((congrArg (fun q : Nat => (q : Int)) (eN30 3)).trans em30_3) (y30_0_8) (((eF30 0 8).trans ey30_0_8)) (y30_2_1) (((eF30 2 1).trans ey30_2_1)) (y30_2_2) (((eF30 2 2).trans ey30_2_2)) (w30_3) ((eA30 3).trans ew30_3) (show inr (z30) from pz30_0) (show 0 ≤ (z30) ∧ (z30) ≤ 12 from q_3423 pz30_1) (show 0 ≤ (y30_2_1) ∧ (y30_2_1) ≤ (m30_3) ∧ (m30_3) ≤ 65536 from pz30_2) (show (u2_1) ≤ (y30_2_1) ∧ (y30_2_1) ≤ (u0_6) by omega) (show (y30_2_2) = 0 from pz30_5) (show IMP ((z30) = 0) (¬(a3 < 4 ∨ a2 = 1 ∧ 65540 < a3) ∧ ∃ pl0 X, TUb (ub8 ((w1))) ((u0_6)) (a1) (a2) (a3) (sc ((w3)) 0 ((u2_1))) (0) (pl0) (X) ∧ TUc (ub8 ((w1))) (a1) X ∧ sc ((w30_3)) 0 ((y30_2_1)) = sc ((w3)) 0 ((u2_1)) ++ X) by assumption) (show IMP ((z30) ≠ 0) ((a3 < 4 ∨ a2 = 1 ∧ 65540 < a3) ∧ (z30) = 10 ∧ (y30_0_8) = a1 ∨ ¬(a3 < 4 ∨ a2 = 1 ∧ 65540 < a3) ∧ ∃ f0 pl0 X, TUb (ub8 ((w1))) ((u0_6)) (a1) (a2) (a3) (sc ((w3)) 0 ((u2_1))) (f0) (pl0) (X) ∧ (f0 ≠ 0 ∧ (z30) = f0 ∧ (y30_0_8) = pl0 ∨ f0 = 0 ∧ ¬ TUc (ub8 ((w1))) (a1) X ∧ (z30) = 11 ∧ (y30_0_8) = a1 + 4)) by assumption))
          · refine Ew_of (pcₚ := 85) (fun _ => x_bipush (z := 12) rfl (by decide)) ?_
            refine Ew_of (pcₚ := 90) (fun _ => x_goto rfl rfl) ?_
            have : IMP (((12) : Int) = 0) (¬((a3) < 4 ∨ (a2) = 1 ∧ 65540 < (a3)) ∧ ∃ pl0 X, TUb (ub8 ((w1))) ((u0_6)) ((a1)) ((a2)) ((a3)) (sc ((w3)) 0 ((u2_1))) (0) (pl0) (X) ∧ TUc (ub8 ((w1))) ((a1)) X ∧ sc ((w30_3)) 0 ((y30_2_1)) = sc ((w3)) 0 ((u2_1)) ++ X) := fun z => absurd z (by omega)
            have : IMP (((12) : Int) ≠ 0) (((a3) < 4 ∨ (a2) = 1 ∧ 65540 < (a3)) ∧ ((12) : Int) = 10 ∧ (y30_0_8) = (a1) ∨ ¬((a3) < 4 ∨ (a2) = 1 ∧ 65540 < (a3)) ∧ ∃ f0 pl0 X, TUb (ub8 ((w1))) ((u0_6)) ((a1)) ((a2)) ((a3)) (sc ((w3)) 0 ((u2_1))) (f0) (pl0) (X) ∧ (f0 ≠ 0 ∧ ((12) : Int) = f0 ∧ (y30_0_8) = pl0 ∨ f0 = 0 ∧ ¬ TUc (ub8 ((w1))) ((a1)) X ∧ ((12) : Int) = 11 ∧ (y30_0_8) = (a1) + 4)) := fun z => .inr ⟨by omega, (12), (y30_0_8), [], .inl ⟨by omega, (z30), _, _, hbf (by omega), .inl ⟨by omega, by omega, rfl⟩⟩, .inl ⟨z, rfl, rfl⟩⟩
            exact w_ireturn rfl (k (12) _ _ _ _ _ _ _ H O (cD30) (cN30) (cF30) (cA30) (pf30_2_0) (m30_3) ((congrArg (fun q : Nat => (q : Int)) (eN30 3)).trans em30_3) (y30_0_8) (((eF30 0 8).trans ey30_0_8)) (y30_2_1) (((eF30 2 1).trans ey30_2_1)) (y30_2_2) (((eF30 2 2).trans ey30_2_2)) (w30_3) ((eA30 3).trans ew30_3) (show inr (12) from q_599) (show 0 ≤ (12) ∧ (12) ≤ 12 by first | exact q_3424 | omega) (show 0 ≤ (y30_2_1) ∧ (y30_2_1) ≤ (m30_3) ∧ (m30_3) ≤ 65536 from pz30_2) (show (u2_1) ≤ (y30_2_1) ∧ (y30_2_1) ≤ (u0_6) by omega) (show (y30_2_2) = 0 from pz30_5) (show IMP ((12) = 0) (¬(a3 < 4 ∨ a2 = 1 ∧ 65540 < a3) ∧ ∃ pl0 X, TUb (ub8 ((w1))) ((u0_6)) (a1) (a2) (a3) (sc ((w3)) 0 ((u2_1))) (0) (pl0) (X) ∧ TUc (ub8 ((w1))) (a1) X ∧ sc ((w30_3)) 0 ((y30_2_1)) = sc ((w3)) 0 ((u2_1)) ++ X) by assumption) (show IMP ((12) ≠ 0) ((a3 < 4 ∨ a2 = 1 ∧ 65540 < a3) ∧ (12) = 10 ∧ (y30_0_8) = a1 ∨ ¬(a3 < 4 ∨ a2 = 1 ∧ 65540 < a3) ∧ ∃ f0 pl0 X, TUb (ub8 ((w1))) ((u0_6)) (a1) (a2) (a3) (sc ((w3)) 0 ((u2_1))) (f0) (pl0) (X) ∧ (f0 ≠ 0 ∧ (12) = f0 ∧ (y30_0_8) = pl0 ∨ f0 = 0 ∧ ¬ TUc (ub8 ((w1))) (a1) X ∧ (12) = 11 ∧ (y30_0_8) = a1 + 4)) by assumption))
    refine w_icmpne (t := 24) rfl rfl (show inr (a2) from h1) (show inr (1) from q_135) (fun b37 => ?_) (fun b37 => ?_)
    · exact hc24  _ _ _ _  (rfl) (rfl) (rfl) (rfl) H O (SF_refl) (SA_refl)     (show ((a2) ≠ (1)) ∨ ((a2) = (1) ∧ (a3) ≤ (65540)) from q_3425 b37)
    · refine Ew_of (pcₚ := 11) (fun _ => x_iload_n rfl rfl) ?_
      refine Ew_of (pcₚ := 13) (fun _ => x_ldc (z := 65540) rfl (by decide)) ?_
      refine w_icmple (t := 24) rfl rfl (show inr (a3) from h2) (show inr (65540) from q_1094) (fun b38 => ?_) (fun b38 => ?_)
      · exact hc24  _ _ _ _  (rfl) (rfl) (rfl) (rfl) H O (SF_refl) (SA_refl)     (show ((a2) ≠ (1)) ∨ ((a2) = (1) ∧ (a3) ≤ (65540)) from q_3426 b37 b38)
      · refine Ew_of (pcₚ := 17) (fun _ => x_aload_n rfl rfl) ?_
        refine Ew_of (pcₚ := 19) (fun _ => x_bipush (z := 10) rfl (by decide)) ?_
        refine Ew_of (pcₚ := 20) (fun _ => x_iload_n rfl rfl) ?_
        refine v_inv H (o := 0) rfl rfl rfl rfl rfl rfl (by rfl) (C203 (D := puc 0 D) (N := puc 0 N) (HW_subc H oz_D6cls_20 oz_D6cls_29) (u0_8) ((eu0_8)) (show inr (10) from q_746) (show inr (a1) from h0) (fun z39 σ39 F39ₚ A39ₚ Hₚ Oₚ hS39 hA39 y39_0_8 ey39_0_8 pz39_0 pz39_1 pz39_2 => ⟨rfl, ?_⟩))
        refine v_backc (c := c) (s := s) H oz_D6cls_20 oz_D6cls_29 Hₚ Oₚ (fun F39 A39 H Oₚ eF39 eA39 => ?_)
        have O := OUT_trans O Oₚ
        -- Tags.fail
        have cF39 : SF oz_D6clsl_7 F F39 := SF_trans (SF_refl) (SF_gluc (ι := oz_D6clsl_8) oz_D6cls_29 hS39 eF39 (by decide +kernel)) (any_sub (lₚ := [(0, 8)]) (by decide +kernel))
        have mF39 := SFm_of cF39 oz_D6cls_28
        have cA39 : SA oz_D6clsl_3 A A39 := SA_trans (SA_refl) (SA_gluc (ι := oz_D6clsl_8) oz_D6cls_29 hA39 eA39 (by decide +kernel)) (any_subA (lₚ := []) (by decide +kernel))
        have mA39 := SAm_of cA39 oz_D6cls_15
        have r40 : (-2147483648 : Int) ≤ y39_0_8 ∧ y39_0_8 ≤ 2147483647 := rngE (show (-2147483648 : Int) ≤ F39 0 8 ∧ F39 0 8 ≤ 2147483647 from H.krg 0 8 (ltn len_V211_oz_D6cls rfl)) (show F39 0 8 = y39_0_8 from ((eF39 0 8).trans ey39_0_8))
        have : IMP (((z39) : Int) = 0) (¬((a3) < 4 ∨ (a2) = 1 ∧ 65540 < (a3)) ∧ ∃ pl0 X, TUb (ub8 ((w1))) ((u0_6)) ((a1)) ((a2)) ((a3)) (sc ((w3)) 0 ((u2_1))) (0) (pl0) (X) ∧ TUc (ub8 ((w1))) ((a1)) X ∧ sc ((w3)) 0 ((u2_1)) = sc ((w3)) 0 ((u2_1)) ++ X) := fun z => absurd z (by omega)
        have : IMP (((z39) : Int) ≠ 0) (((a3) < 4 ∨ (a2) = 1 ∧ 65540 < (a3)) ∧ ((z39) : Int) = 10 ∧ (y39_0_8) = (a1) ∨ ¬((a3) < 4 ∨ (a2) = 1 ∧ 65540 < (a3)) ∧ ∃ f0 pl0 X, TUb (ub8 ((w1))) ((u0_6)) ((a1)) ((a2)) ((a3)) (sc ((w3)) 0 ((u2_1))) (f0) (pl0) (X) ∧ (f0 ≠ 0 ∧ ((z39) : Int) = f0 ∧ (y39_0_8) = pl0 ∨ f0 = 0 ∧ ¬ TUc (ub8 ((w1))) ((a1)) X ∧ ((z39) : Int) = 11 ∧ (y39_0_8) = (a1) + 4)) := fun _ => .inl ⟨by omega, by omega, by omega⟩
        exact w_ireturn rfl (k (z39) _ _ _ _ _ _ _ H O (SD_refl) (SD_refl) (cF39) (cA39) ((((show F39 2 0 = F 2 0 from (eF39 2 0)))).trans (pf3)) (n3) (en3) (y39_0_8) (((eF39 0 8).trans ey39_0_8)) (u2_1) ((((show F39 2 1 = F 2 1 from (eF39 2 1))).trans (eu2_1))) (u2_2) ((((show F39 2 2 = F 2 2 from (eF39 2 2))).trans (eu2_2))) (w3) (((show A39 3 = A 3 from (eA39 3))).trans (ew3)) (show inr (z39) from pz39_0) (show 0 ≤ (z39) ∧ (z39) ≤ 12 from q_3406 pz39_1) (show 0 ≤ (u2_1) ∧ (u2_1) ≤ (n3) ∧ (n3) ≤ 65536 from h4) (show (u2_1) ≤ (u2_1) ∧ (u2_1) ≤ (u0_6) from q_735 h5) (show (u2_2) = 0 from h6) (show IMP ((z39) = 0) (¬(a3 < 4 ∨ a2 = 1 ∧ 65540 < a3) ∧ ∃ pl0 X, TUb (ub8 ((w1))) ((u0_6)) (a1) (a2) (a3) (sc ((w3)) 0 ((u2_1))) (0) (pl0) (X) ∧ TUc (ub8 ((w1))) (a1) X ∧ sc ((w3)) 0 ((u2_1)) = sc ((w3)) 0 ((u2_1)) ++ X) by assumption) (show IMP ((z39) ≠ 0) ((a3 < 4 ∨ a2 = 1 ∧ 65540 < a3) ∧ (z39) = 10 ∧ (y39_0_8) = a1 ∨ ¬(a3 < 4 ∨ a2 = 1 ∧ 65540 < a3) ∧ ∃ f0 pl0 X, TUb (ub8 ((w1))) ((u0_6)) (a1) (a2) (a3) (sc ((w3)) 0 ((u2_1))) (f0) (pl0) (X) ∧ (f0 ≠ 0 ∧ (z39) = f0 ∧ (y39_0_8) = pl0 ∨ f0 = 0 ∧ ¬ TUc (ub8 ((w1))) (a1) X ∧ (z39) = 11 ∧ (y39_0_8) = a1 + 4)) by assumption))
abbrev V210_Row_Row : vV := [(0, 10, [(4, 0), (4, 0), (4, 0), (4, 0), (0, 0), (4, 0), (0, 0), (2, 0), (0, 0)]), (0, 7, [(4, 0), (0, 0), (1, 0), (0, 0), (0, 0)]), (0, 7, [(4, 0), (0, 0), (1, 0), (0, 0), (0, 0)]), (1, 0, []), (1, 0, [])]
theorem len_V210_Row_Row_oz_D6cls : (V210_Row_Row).length = 5 := by decide +kernel
theorem oz_D6cls_36 : vsub V210_Row_Row V204_Row_Row [0, 1, 2, 3] = true := by decide +kernel
theorem oz_D6cls_37 : vsub V210_Row_Row V203 [0] = true := by decide +kernel
theorem oz_D6cls_38 : vsub V210_Row_Row V211 [0, 3, 2, 4] = true := by decide +kernel
theorem oz_D6cls_39 : vmov V210_Row_Row [0, 3, 2, 4] [3] = true := by decide +kernel
theorem oz_D6cls_40 : vsub V210_Row_Row V192_Br [3] = true := by decide +kernel
theorem oz_D6cls_41 : vsub V210_Row_Row V42_Br [3] = true := by decide +kernel
def oz_D6clsl_13 : List (Nat × Nat) := [(0, 3), (0, 4), (0, 5), (0, 6), (0, 7), (0, 8), (2, 0), (2, 1), (2, 2)]
theorem oz_D6cls_42 : (oz_D6clsl_13).all (fun p => !tbz 129127208515966861816 (Nat.add (Nat.mul 32 p.1) p.2)) = true := by decide +kernel
theorem oz_D6cls_43 : (oz_D6clsl_6).all (fun p => !tbz 16 p) = true := by decide +kernel
def oz_D6clsl_14 : List Nat := [0, 3, 2, 4]
theorem oz_D6cls_44 : okc oz_D6clsl_14 537396736 = true := by decide +kernel

theorem C210_Row_Row {σE : rS} {D N : Nat → Nat} {F : hF} {A : hA} {d c s : Nat} {Q : wQ} (H : HW V210_Row_Row σE D N F A) (HT : STC σE) {a3 : Int} (pf3 : F 1 0 = (D 3 : Int)) (pf4 : F 2 0 = (D 4 : Int)) (n3 : Int) (en3 : (N 3 : Int) = n3) (n4 : Int) (en4 : (N 4 : Int) = n4) (u0_8 : Int) (eu0_8 : F 0 8 = u0_8) (u1_1 : Int) (eu1_1 : F 1 1 = u1_1) (u2_1 : Int) (eu2_1 : F 2 1 = u2_1) (u2_2 : Int) (eu2_2 : F 2 2 = u2_2) (w3 : Int → Int) (ew3 : A 3 = w3) (w4 : Int → Int) (ew4 : A 4 = w4) (h0 : inr (a3)) (h1 : 0 ≤ (u1_1) ∧ (u1_1) ≤ (n3) ∧ (n3) ≤ 65536) (h2 : 0 ≤ (u2_1) ∧ (u2_1) ≤ (n4) ∧ (n4) ≤ 65536) (h3 : 0 ≤ (a3) ∧ (a3) ≤ 65536) (h4 : (u2_1) = 0 ∧ (u2_2) = 0) (k : ∀ (z : Int) (σ : rS) (Dₚ Nₚ : Nat → Nat) (Fₚ : hF) (Aₚ : hA) (cₚ sₚ : Nat), HW V210_Row_Row σ Dₚ Nₚ Fₚ Aₚ → OUT (V210_Row_Row).length D N σE c s Dₚ Nₚ σ cₚ sₚ → SD [4] D Dₚ → SD [4] N Nₚ → SF [(0, 3), (0, 4), (0, 5), (0, 6), (0, 7), (0, 8), (2, 0), (2, 1), (2, 2)] F Fₚ → SA [4] A Aₚ → Fₚ 2 0 = (Dₚ 4 : Int) → ∀ m4 : Int, (Nₚ 4 : Int) = m4 → ∀ y0_8 : Int, Fₚ 0 8 = y0_8 → ∀ y2_1 : Int, Fₚ 2 1 = y2_1 → ∀ y2_2 : Int, Fₚ 2 2 = y2_2 → ∀ v4 : Int → Int, Aₚ 4 = v4 → (inr (z)) → (0 ≤ (z) ∧ (z) ≤ 12) → (0 ≤ (y2_1) ∧ (y2_1) ≤ (m4) ∧ (m4) ≤ 65536) → ((y2_2) = 0) → (IMP ((z) ≠ 0) (IT (TUs (ub8 ((w3))) ((u1_1)) ((a3))) (TUe (ub8 ((w3))) ((u1_1)) ((a3))) (0, []) ((z), (y0_8), []))) → (IMP ((z) = 0) (IT (TUs (ub8 ((w3))) ((u1_1)) ((a3))) (TUe (ub8 ((w3))) ((u1_1)) ((a3))) (0, []) (0, (y0_8), sc ((v4)) 0 ((y2_1))))) → ((z) ≠ 0 ∨ (y0_8) = (u1_1)) → Q (some (I z)) σ cₚ sₚ) : Ew 210 (d + 5) 0 (rargs 0 [.ref (D 0), .ref (D 1), .ref (D 2), I a3]) [] σE c s Q := by
  have O := OUT_refl (n := (V210_Row_Row).length) (D := D) (N := N) (σ := σE) (c := c) (s := s)
  have HE := H
  have r1 : (-2147483648 : Int) ≤ u0_8 ∧ u0_8 ≤ 2147483647 := rngE (show (-2147483648 : Int) ≤ F 0 8 ∧ F 0 8 ≤ 2147483647 from H.krg 0 8 (ltn len_V210_Row_Row_oz_D6cls rfl)) (show F 0 8 = u0_8 from (eu0_8))
  have r2 : (-2147483648 : Int) ≤ u1_1 ∧ u1_1 ≤ 2147483647 := rngE (show (-2147483648 : Int) ≤ F 1 1 ∧ F 1 1 ≤ 2147483647 from H.krg 1 1 (ltn len_V210_Row_Row_oz_D6cls rfl)) (show F 1 1 = u1_1 from (eu1_1))
  have r3 : (-2147483648 : Int) ≤ u2_1 ∧ u2_1 ≤ 2147483647 := rngE (show (-2147483648 : Int) ≤ F 2 1 ∧ F 2 1 ≤ 2147483647 from H.krg 2 1 (ltn len_V210_Row_Row_oz_D6cls rfl)) (show F 2 1 = u2_1 from (eu2_1))
  have r4 : (0 : Int) ≤ u2_2 ∧ u2_2 ≤ 1 := rngE (show (0 : Int) ≤ F 2 2 ∧ F 2 2 ≤ 1 from H.krg 2 2 (ltn len_V210_Row_Row_oz_D6cls rfl)) (show F 2 2 = u2_2 from (eu2_2))
  have r5 : (0 : Int) ≤ n3 ∧ n3 ≤ 1000000 := nleE (H.nle 3 (ltn len_V210_Row_Row_oz_D6cls rfl)) (show (N 3 : Int) = n3 from en3)
  have r6 : (0 : Int) ≤ n4 ∧ n4 ≤ 1000000 := nleE (H.nle 4 (ltn len_V210_Row_Row_oz_D6cls rfl)) (show (N 4 : Int) = n4 from en4)
  refine Ew_of (pcₚ := 1) (fun _ => x_aload_n rfl rfl) ?_
  refine Ew_of (pcₚ := 2) (fun _ => x_aload_n rfl rfl) ?_
  refine Ew_of (pcₚ := 3) (fun _ => x_aload_n rfl rfl) ?_
  refine Ew_of (pcₚ := 4) (fun _ => x_iload_n rfl rfl) ?_
  have r7 : (-2147483648 : Int) ≤ F 0 4 ∧ F 0 4 ≤ 2147483647 := H.krg 0 4 (ltn len_V210_Row_Row_oz_D6cls rfl)
  have r8 : (-2147483648 : Int) ≤ F 0 6 ∧ F 0 6 ≤ 2147483647 := H.krg 0 6 (ltn len_V210_Row_Row_oz_D6cls rfl)
  refine v_inv H (o := 0) rfl rfl rfl rfl rfl rfl (by rfl) (C204_Row_Row (D := puc 403177984 D) (N := puc 403177984 N) (HW_subc H oz_D6cls_36 oz_D6cls_34) (pf3) (n3) (en3) (F 0 4) (rfl) (F 0 6) (rfl) (u0_8) ((eu0_8)) (u1_1) ((eu1_1)) (show inr (a3) from h0) (fun σ9 F9ₚ A9ₚ Hₚ Oₚ hS9 hA9 y9_0_4 ey9_0_4 y9_0_6 ey9_0_6 y9_0_8 ey9_0_8 pq9_0 pq9_1 pz9_0 => ⟨rfl, ?_⟩))
  refine v_backc (c := c) (s := s) H oz_D6cls_36 oz_D6cls_34 Hₚ Oₚ (fun F9 A9 H Oₚ eF9 eA9 => ?_)
  have O := OUT_trans O Oₚ
  -- Tags.begin
  have cF9 : SF oz_D6clsl_13 F F9 := SF_trans (SF_refl) (SF_gluc (ι := oz_D6clsl_12) oz_D6cls_34 hS9 eF9 (by decide +kernel)) (any_sub (lₚ := [(0, 3), (0, 4), (0, 5), (0, 6), (0, 8)]) (by decide +kernel))
  have mF9 := SFm_of cF9 oz_D6cls_42
  have cA9 : SA oz_D6clsl_6 A A9 := SA_trans (SA_refl) (SA_gluc (ι := oz_D6clsl_12) oz_D6cls_34 hA9 eA9 (by decide +kernel)) (any_subA (lₚ := []) (by decide +kernel))
  have mA9 := SAm_of cA9 oz_D6cls_43
  have pl9_0 : F9 0 3 = (D 3 : Int) := (eF9 0 3).trans (pq9_0)
  have pl9_1 : F9 0 5 = (D 2 : Int) := (eF9 0 5).trans (pq9_1)
  have r10 : (-2147483648 : Int) ≤ y9_0_4 ∧ y9_0_4 ≤ 2147483647 := rngE (show (-2147483648 : Int) ≤ F9 0 4 ∧ F9 0 4 ≤ 2147483647 from H.krg 0 4 (ltn len_V210_Row_Row_oz_D6cls rfl)) (show F9 0 4 = y9_0_4 from ((eF9 0 4).trans ey9_0_4))
  have r11 : (-2147483648 : Int) ≤ y9_0_6 ∧ y9_0_6 ≤ 2147483647 := rngE (show (-2147483648 : Int) ≤ F9 0 6 ∧ F9 0 6 ≤ 2147483647 from H.krg 0 6 (ltn len_V210_Row_Row_oz_D6cls rfl)) (show F9 0 6 = y9_0_6 from ((eF9 0 6).trans ey9_0_6))
  have r12 : (-2147483648 : Int) ≤ y9_0_8 ∧ y9_0_8 ≤ 2147483647 := rngE (show (-2147483648 : Int) ≤ F9 0 8 ∧ F9 0 8 ≤ 2147483647 from H.krg 0 8 (ltn len_V210_Row_Row_oz_D6cls rfl)) (show F9 0 8 = y9_0_8 from ((eF9 0 8).trans ey9_0_8))
  refine Ew_of (pcₚ := 8) (fun _ => x_iconst rfl) ?_
  refine Ew_of (pcₚ := 10) (fun _ => x_istore rfl) ?_
  refine Ew_of (pcₚ := 11) (fun _ => x_iconst rfl) ?_
  refine Ew_of (pcₚ := 13) (fun _ => x_istore rfl) ?_
  have : ITO (TUs (ub8 ((w3))) ((u1_1)) ((a3))) (TUe (ub8 ((w3))) ((u1_1)) ((a3))) (0, []) (0, sc ((w4)) 0 ((u2_1))) := by rw [sc_nil (b := (u2_1)) (by omega)]; exact ITO_0
  suffices hl13 : ∀ (m : Nat), ∀ (ls : rO) (σ : rS) (D_13 N_13 : Nat → Nat) (c_13 s_13 : Nat) (F_13 : hF) (A_13 : hA) (x13_4 : Int) (x13_5 : Int), rlook ls 0 = some (.ref (D_13 0)) → rlook ls 4 = some (I (x13_4)) → rlook ls 5 = some (I (x13_5)) → HW V210_Row_Row σ D_13 N_13 F_13 A_13 → OUT (V210_Row_Row).length D N σE c s D_13 N_13 σ c_13 s_13 → SD [4] D D_13 → SD [4] N N_13 → SF [(0, 7), (0, 8), (2, 0), (2, 1), (2, 2)] F9 F_13 → SA [4] A9 A_13 → F_13 2 0 = (D_13 4 : Int) → ∀ m13_4 : Int, (N_13 4 : Int) = m13_4 → ∀ y13_2_1 : Int, F_13 2 1 = y13_2_1 → ∀ y13_2_2 : Int, F_13 2 2 = y13_2_2 → ∀ w13_4 : Int → Int, A_13 4 = w13_4 → (inr (x13_4)) → (inr (x13_5)) → ((0) ≤ (x13_5)) → ((x13_5) ≤ (0) ∨ (x13_5) ≤ ((y9_0_4))) → (0 ≤ (x13_4) ∧ (x13_4) ≤ (y9_0_4)) → (0 ≤ (y13_2_1) ∧ (y13_2_1) ≤ (m13_4) ∧ (m13_4) ≤ 65536) → ((y13_2_1) ≤ (a3)) → (0 ≤ (y9_0_4) ∧ (y9_0_4) ≤ (n3)) → ((y13_2_2) = 0) → ((y9_0_6) = (a3) ∧ (y9_0_4) = (u1_1)) → ((x13_5) ≤ (x13_4)) → (ITO (TUs (ub8 ((w3))) ((u1_1)) ((a3))) (TUe (ub8 ((w3))) ((u1_1)) ((a3))) (0, []) ((x13_4), sc ((w13_4)) 0 ((y13_2_1)))) → (((y9_0_4)) - (x13_5)).toNat = m → Ew 210 (d + 5) 13 ls [] σ c_13 s_13 Q from
    hl13 _ _ _ _ _ _ _ _ _ (0) (0) (rk_o (rk_o (rfl) rfl rfl) rfl rfl) (rk_o (rk_s) rfl rfl) (rk_s) H O (SD_refl) (SD_refl) (SF_refl) (SA_refl) ((((show F9 2 0 = F 2 0 from (eF9 2 0).trans (hS9 2 0 rfl)))).trans (pf4)) (n4) (en4) (u2_1) ((((show F9 2 1 = F 2 1 from (eF9 2 1).trans (hS9 2 1 rfl))).trans (eu2_1))) (u2_2) ((((show F9 2 2 = F 2 2 from (eF9 2 2).trans (hS9 2 2 rfl))).trans (eu2_2))) (w4) (((show A9 4 = A 4 from (eA9 4))).trans (ew4)) (show inr (0) from q_2) (show inr (0) from q_2) (show (0) ≤ (0) from q_1) (show (0) ≤ (0) ∨ (0) ≤ ((y9_0_4)) from q_5) (show 0 ≤ (0) ∧ (0) ≤ (y9_0_4) from q_3380 h1 pz9_0) (show 0 ≤ (u2_1) ∧ (u2_1) ≤ (n4) ∧ (n4) ≤ 65536 from h2) (show (u2_1) ≤ (a3) from q_3379 h3 h4) (show 0 ≤ (y9_0_4) ∧ (y9_0_4) ≤ (n3) from q_3378 h1 pz9_0) (show (u2_2) = 0 from q_3377 h4) (show (y9_0_6) = (a3) ∧ (y9_0_4) = (u1_1) from q_3376 pz9_0) (show (0) ≤ (0) from q_1) (show ITO (TUs (ub8 ((w3))) ((u1_1)) ((a3))) (TUe (ub8 ((w3))) ((u1_1)) ((a3))) (0, []) ((0), sc ((w4)) 0 ((u2_1))) by assumption) rfl
  as_aux_lemma =>
  intro m
  induction m using Nat.strongRecOn with
  | _ m ih13 =>
    intro ls σ D_13 N_13 c_13 s_13 F_13 A_13 x13_4 x13_5 l13_0 l13_4 l13_5 H O hD_13 hN_13 hS_13 hA_13 pm13_4 m13_4 em13_4 y13_2_1 ey13_2_1 y13_2_2 ey13_2_2 w13_4 ew13_4 j13_0 j13_1 j13_2 j13_3 j13_4 j13_5 j13_6 j13_7 j13_8 j13_9 j13_10 j13_11 hm13
    have cF_13 : SF oz_D6clsl_13 F F_13 := SF_trans (cF9) hS_13 (any_sub (by decide +kernel))
    have mF_13 := SFm_of cF_13 oz_D6cls_42
    have cA_13 : SA oz_D6clsl_6 A A_13 := SA_trans (cA9) hA_13 (any_subA (by decide +kernel))
    have mA_13 := SAm_of cA_13 oz_D6cls_43
    have cD_13 : SD oz_D6clsl_6 D D_13 := SD_trans (SD_refl) hD_13 (any_subA (by decide +kernel))
    have mD_13 := SDm_of cD_13 oz_D6cls_43
    have cN_13 : SD oz_D6clsl_6 N N_13 := SD_trans (SD_refl) hN_13 (any_subA (by decide +kernel))
    have mN_13 := SDm_of cN_13 oz_D6cls_43
    have pf_13_0_3 : F_13 0 3 = (D_13 3 : Int) := (hS_13 0 3 rfl).trans ((pl9_0).trans (congrArg (fun q : Nat => (q : Int)) (hD_13 3 rfl).symm))
    have pf_13_0_5 : F_13 0 5 = (D_13 2 : Int) := (hS_13 0 5 rfl).trans ((pl9_1).trans (congrArg (fun q : Nat => (q : Int)) (hD_13 2 rfl).symm))
    have r13 : (0 : Int) ≤ m13_4 ∧ m13_4 ≤ 1000000 := nleE (H.nle 4 (ltn len_V210_Row_Row_oz_D6cls rfl)) (show (N_13 4 : Int) = m13_4 from em13_4)
    have r14 : (-2147483648 : Int) ≤ y13_2_1 ∧ y13_2_1 ≤ 2147483647 := rngE (show (-2147483648 : Int) ≤ F_13 2 1 ∧ F_13 2 1 ≤ 2147483647 from H.krg 2 1 (ltn len_V210_Row_Row_oz_D6cls rfl)) (show F_13 2 1 = y13_2_1 from (ey13_2_1))
    have r15 : (0 : Int) ≤ y13_2_2 ∧ y13_2_2 ≤ 1 := rngE (show (0 : Int) ≤ F_13 2 2 ∧ F_13 2 2 ≤ 1 from H.krg 2 2 (ltn len_V210_Row_Row_oz_D6cls rfl)) (show F_13 2 2 = y13_2_2 from (ey13_2_2))
    have j13_i : ITO (TUs (ub8 ((w3))) ((u1_1)) ((a3))) (TUe (ub8 ((w3))) ((u1_1)) ((a3))) (0, []) ((x13_4), sc ((w13_4)) 0 ((y13_2_1))) := by assumption
    obtain ⟨q4, hq4⟩ : ∃ q : Int, q = (x13_4) := ⟨_, rfl⟩
    obtain ⟨CX, hCX⟩ : ∃ q : List Int, q = sc ((w13_4)) 0 ((y13_2_1)) := ⟨_, rfl⟩
    have j13_x : ITO (TUs (ub8 ((w3))) ((u1_1)) ((a3))) (TUe (ub8 ((w3))) ((u1_1)) ((a3))) (0, []) (q4, CX) := by rw [hq4, hCX]; exact j13_i
    have hCl : (CX.length : Int) = (y13_2_1) := by rw [hCX, sc_lenI (by omega)]; omega
    refine Ew_of (pcₚ := 15) (fun _ => x_iload rfl l13_5) ?_
    refine Ew_of (pcₚ := 16) (fun _ => x_aload_n rfl l13_0) ?_
    refine v_g H (o := 0) (v := I (y9_0_4)) rfl rfl rfl rfl rfl (congrArg (fun z : Int => I z) (((hS_13 0 4 rfl).trans ((eF9 0 4).trans ey9_0_4)) : F_13 0 4 = y9_0_4)) ?_
    refine w_icmpge (t := 227) rfl rfl (show inr (x13_5) from j13_1) (show inr (y9_0_4) from q_512 j13_7 r10) (fun b16 => ?_) (fun b16 => ?_)
    · refine Ew_of (pcₚ := 228) (fun _ => x_aload_n rfl l13_0) ?_
      refine Ew_of (pcₚ := 229) (fun _ => x_iconst rfl) ?_
      refine Ew_of (pcₚ := 230) (fun _ => x_aload_n rfl l13_0) ?_
      refine v_g H (o := 0) (v := I (y9_0_4)) rfl rfl rfl rfl rfl (congrArg (fun z : Int => I z) (((hS_13 0 4 rfl).trans ((eF9 0 4).trans ey9_0_4)) : F_13 0 4 = y9_0_4)) ?_
      have r17 : (-2147483648 : Int) ≤ F_13 0 8 ∧ F_13 0 8 ≤ 2147483647 := H.krg 0 8 (ltn len_V210_Row_Row_oz_D6cls rfl)
      refine v_inv H (o := 0) rfl rfl rfl rfl rfl rfl (by rfl) (C203 (D := puc 0 D_13) (N := puc 0 N_13) (HW_subc H oz_D6cls_37 oz_D6cls_29) (F_13 0 8) (rfl) (show inr (0) from q_2) (show inr (y9_0_4) from q_512 j13_7 r10) (fun z18 σ18 F18ₚ A18ₚ Hₚ Oₚ hS18 hA18 y18_0_8 ey18_0_8 pz18_0 pz18_1 pz18_2 => ⟨rfl, ?_⟩))
      refine v_backc (c := c_13) (s := s_13) H oz_D6cls_37 oz_D6cls_29 Hₚ Oₚ (fun F18 A18 H Oₚ eF18 eA18 => ?_)
      have O := OUT_trans O Oₚ
      -- Tags.fail
      have cF18 : SF oz_D6clsl_13 F F18 := SF_trans (cF_13) (SF_gluc (ι := oz_D6clsl_8) oz_D6cls_29 hS18 eF18 (by decide +kernel)) (any_sub (lₚ := [(0, 8)]) (by decide +kernel))
      have mF18 := SFm_of cF18 oz_D6cls_42
      have cA18 : SA oz_D6clsl_6 A A18 := SA_trans (cA_13) (SA_gluc (ι := oz_D6clsl_8) oz_D6cls_29 hA18 eA18 (by decide +kernel)) (any_subA (lₚ := []) (by decide +kernel))
      have mA18 := SAm_of cA18 oz_D6cls_43
      have r19 : (-2147483648 : Int) ≤ y18_0_8 ∧ y18_0_8 ≤ 2147483647 := rngE (show (-2147483648 : Int) ≤ F18 0 8 ∧ F18 0 8 ≤ 2147483647 from H.krg 0 8 (ltn len_V210_Row_Row_oz_D6cls rfl)) (show F18 0 8 = y18_0_8 from ((eF18 0 8).trans ey18_0_8))
      have : IMP (((z18) : Int) ≠ 0) (IT (TUs (ub8 ((w3))) ((u1_1)) ((a3))) (TUe (ub8 ((w3))) ((u1_1)) ((a3))) (0, []) (((z18) : Int), (y18_0_8), [])) := fun z => absurd (by omega) z
      have : IMP (((z18) : Int) = 0) (IT (TUs (ub8 ((w3))) ((u1_1)) ((a3))) (TUe (ub8 ((w3))) ((u1_1)) ((a3))) (0, []) (0, (y18_0_8), sc ((w13_4)) 0 ((y13_2_1)))) := fun z => by have h := ITO_e j13_x (TUe_0 (by omega) rfl (show (y18_0_8) = _ by omega)); rw [hCX] at h; exact h
      exact w_ireturn rfl (k (z18) _ _ _ _ _ _ _ H O (cD_13) (cN_13) (cF18) (cA18) ((((show F18 2 0 = F_13 2 0 from (eF18 2 0)))).trans (pm13_4)) (m13_4) (em13_4) (y18_0_8) (((eF18 0 8).trans ey18_0_8)) (y13_2_1) ((((show F18 2 1 = F_13 2 1 from (eF18 2 1))).trans (ey13_2_1))) (y13_2_2) ((((show F18 2 2 = F_13 2 2 from (eF18 2 2))).trans (ey13_2_2))) (w13_4) (((show A18 4 = A_13 4 from (eA18 4))).trans (ew13_4)) (show inr (z18) from pz18_0) (show 0 ≤ (z18) ∧ (z18) ≤ 12 from q_3427 pz18_1) (show 0 ≤ (y13_2_1) ∧ (y13_2_1) ≤ (m13_4) ∧ (m13_4) ≤ 65536 from j13_5) (show (y13_2_2) = 0 from j13_8) (show IMP ((z18) ≠ 0) (IT (TUs (ub8 ((w3))) ((u1_1)) (a3)) (TUe (ub8 ((w3))) ((u1_1)) (a3)) (0, []) ((z18), (y18_0_8), [])) by assumption) (show IMP ((z18) = 0) (IT (TUs (ub8 ((w3))) ((u1_1)) (a3)) (TUe (ub8 ((w3))) ((u1_1)) (a3)) (0, []) (0, (y18_0_8), sc ((w13_4)) 0 ((y13_2_1)))) by assumption) (show (z18) ≠ 0 ∨ (y18_0_8) = (u1_1) from q_3381 j13_9 pz18_2))
    · refine Ew_of (pcₚ := 24) (fun _ => x_iload rfl l13_4) ?_
      refine Ew_of (pcₚ := 25) (fun _ => x_aload_n rfl l13_0) ?_
      refine v_g H (o := 0) (v := I (y9_0_4)) rfl rfl rfl rfl rfl (congrArg (fun z : Int => I z) (((hS_13 0 4 rfl).trans ((eF9 0 4).trans ey9_0_4)) : F_13 0 4 = y9_0_4)) ?_
      refine w_icmpge (t := 227) rfl rfl (show inr (x13_4) from j13_0) (show inr (y9_0_4) from q_512 j13_7 r10) (fun b20 => ?_) (fun b20 => ?_)
      · refine Ew_of (pcₚ := 228) (fun _ => x_aload_n rfl l13_0) ?_
        refine Ew_of (pcₚ := 229) (fun _ => x_iconst rfl) ?_
        refine Ew_of (pcₚ := 230) (fun _ => x_aload_n rfl l13_0) ?_
        refine v_g H (o := 0) (v := I (y9_0_4)) rfl rfl rfl rfl rfl (congrArg (fun z : Int => I z) (((hS_13 0 4 rfl).trans ((eF9 0 4).trans ey9_0_4)) : F_13 0 4 = y9_0_4)) ?_
        have r21 : (-2147483648 : Int) ≤ F_13 0 8 ∧ F_13 0 8 ≤ 2147483647 := H.krg 0 8 (ltn len_V210_Row_Row_oz_D6cls rfl)
        refine v_inv H (o := 0) rfl rfl rfl rfl rfl rfl (by rfl) (C203 (D := puc 0 D_13) (N := puc 0 N_13) (HW_subc H oz_D6cls_37 oz_D6cls_29) (F_13 0 8) (rfl) (show inr (0) from q_2) (show inr (y9_0_4) from q_512 j13_7 r10) (fun z22 σ22 F22ₚ A22ₚ Hₚ Oₚ hS22 hA22 y22_0_8 ey22_0_8 pz22_0 pz22_1 pz22_2 => ⟨rfl, ?_⟩))
        refine v_backc (c := c_13) (s := s_13) H oz_D6cls_37 oz_D6cls_29 Hₚ Oₚ (fun F22 A22 H Oₚ eF22 eA22 => ?_)
        have O := OUT_trans O Oₚ
        -- Tags.fail
        have cF22 : SF oz_D6clsl_13 F F22 := SF_trans (cF_13) (SF_gluc (ι := oz_D6clsl_8) oz_D6cls_29 hS22 eF22 (by decide +kernel)) (any_sub (lₚ := [(0, 8)]) (by decide +kernel))
        have mF22 := SFm_of cF22 oz_D6cls_42
        have cA22 : SA oz_D6clsl_6 A A22 := SA_trans (cA_13) (SA_gluc (ι := oz_D6clsl_8) oz_D6cls_29 hA22 eA22 (by decide +kernel)) (any_subA (lₚ := []) (by decide +kernel))
        have mA22 := SAm_of cA22 oz_D6cls_43
        have r23 : (-2147483648 : Int) ≤ y22_0_8 ∧ y22_0_8 ≤ 2147483647 := rngE (show (-2147483648 : Int) ≤ F22 0 8 ∧ F22 0 8 ≤ 2147483647 from H.krg 0 8 (ltn len_V210_Row_Row_oz_D6cls rfl)) (show F22 0 8 = y22_0_8 from ((eF22 0 8).trans ey22_0_8))
        have : IMP (((z22) : Int) ≠ 0) (IT (TUs (ub8 ((w3))) ((u1_1)) ((a3))) (TUe (ub8 ((w3))) ((u1_1)) ((a3))) (0, []) (((z22) : Int), (y22_0_8), [])) := fun z => absurd (by omega) z
        have : IMP (((z22) : Int) = 0) (IT (TUs (ub8 ((w3))) ((u1_1)) ((a3))) (TUe (ub8 ((w3))) ((u1_1)) ((a3))) (0, []) (0, (y22_0_8), sc ((w13_4)) 0 ((y13_2_1)))) := fun z => by have h := ITO_e j13_x (TUe_0 (by omega) rfl (show (y22_0_8) = _ by omega)); rw [hCX] at h; exact h
        exact w_ireturn rfl (k (z22) _ _ _ _ _ _ _ H O (cD_13) (cN_13) (cF22) (cA22) ((((show F22 2 0 = F_13 2 0 from (eF22 2 0)))).trans (pm13_4)) (m13_4) (em13_4) (y22_0_8) (((eF22 0 8).trans ey22_0_8)) (y13_2_1) ((((show F22 2 1 = F_13 2 1 from (eF22 2 1))).trans (ey13_2_1))) (y13_2_2) ((((show F22 2 2 = F_13 2 2 from (eF22 2 2))).trans (ey13_2_2))) (w13_4) (((show A22 4 = A_13 4 from (eA22 4))).trans (ew13_4)) (show inr (z22) from pz22_0) (show 0 ≤ (z22) ∧ (z22) ≤ 12 from q_3427 pz22_1) (show 0 ≤ (y13_2_1) ∧ (y13_2_1) ≤ (m13_4) ∧ (m13_4) ≤ 65536 from j13_5) (show (y13_2_2) = 0 from j13_8) (show IMP ((z22) ≠ 0) (IT (TUs (ub8 ((w3))) ((u1_1)) (a3)) (TUe (ub8 ((w3))) ((u1_1)) (a3)) (0, []) ((z22), (y22_0_8), [])) by assumption) (show IMP ((z22) = 0) (IT (TUs (ub8 ((w3))) ((u1_1)) (a3)) (TUe (ub8 ((w3))) ((u1_1)) (a3)) (0, []) (0, (y22_0_8), sc ((w13_4)) 0 ((y13_2_1)))) by assumption) (show (z22) ≠ 0 ∨ (y22_0_8) = (u1_1) from q_3381 j13_9 pz22_2))
      · refine Ew_of (pcₚ := 32) (fun _ => x_aload_n rfl l13_0) ?_
        refine v_g H (o := 0) (v := .ref (D_13 3)) rfl rfl rfl rfl rfl (vrf (pf_13_0_3)) ?_
        refine Ew_of (pcₚ := 37) (fun _ => x_iload rfl l13_4) ?_
        refine v_lB H (o := 3) rfl rfl rfl rfl (n := n3) ((congrArg (fun q : Nat => (q : Int)) (mN_13 3 rfl)).trans (en3)) (show 0 ≤ x13_4 ∧ x13_4 < n3 from q_3428 b20 j13_4 j13_7) (fun v24 ev24 qv24 => ?_)
        have ev24 : (w3) (x13_4) = v24 := (congrFun ((funext (mA_13 3 rfl)).trans (ew3)) (x13_4)).symm.trans ev24
        have hvb := ev24
        refine Ew_of (pcₚ := 41) (fun _ => x_sipush (z := 255) rfl (by decide)) ?_
        refine v_and255 rfl ?_
        have hkd : (ub8 ((w3))) (q4) = ((v24 % 256)) := by rw [hq4]; exact ub_eq hvb rfl
        refine Ew_of (pcₚ := 44) (fun _ => x_istore rfl) ?_
        refine Ew_of (pcₚ := 46) (fun _ => x_iload rfl (rk_o (l13_4) rfl rfl)) ?_
        refine w_ifne (t := 66) rfl rfl (show inr (x13_4) from j13_0) (fun b25 => ?_) (fun b25 => ?_)
        · refine Ew_of (pcₚ := 68) (fun _ => x_iload rfl rk_s) ?_
          refine Ew_of (pcₚ := 69) (fun _ => x_iconst rfl) ?_
          refine w_icmplt (t := 88) rfl rfl (show inr ((v24 % 256)) from q_461) (show inr (2) from q_122) (fun b26 => ?_) (fun b26 => ?_)
          · have hc119 : ∀ (tc119_0 : Int), ∀ (ls : rO) (σ : rS) (F_c119 : hF) (A_c119 : hA) , rlook ls 0 = some (.ref (D_13 0)) → rlook ls 4 = some (I (x13_4)) → rlook ls 5 = some (I (x13_5)) → rlook ls 6 = some (I ((v24 % 256))) → HW V210_Row_Row σ D_13 N_13 F_c119 A_c119 → OUT (V210_Row_Row).length D N σE c s D_13 N_13 σ c_13 s_13 → SF [] F_13 F_c119 → SA [] A_13 A_c119 → (inr (tc119_0)) → (0 ≤ (tc119_0) ∧ (tc119_0) ≤ 16777215) → ((y9_0_4) < (x13_4) + 4 ∧ (tc119_0) = (y9_0_4) ∨ (x13_4) + 4 ≤ (y9_0_4) ∧ (tc119_0) = nvl (ub8 ((w3))) (q4 + 1) 3) → Ew 210 (d + 5) 119 ls [I (tc119_0)] σ c_13 s_13 Q := by
             as_aux_lemma =>
              intro tc119_0 ls σ F_c119 A_c119  lc119_0 lc119_4 lc119_5 lc119_6 H O hS_c119 hA_c119     jc119_0 jc119_1 jc119_2
              have cF_c119 : SF oz_D6clsl_13 F F_c119 := SF_trans (cF_13) hS_c119 (any_sub (by decide +kernel))
              have mF_c119 := SFm_of cF_c119 oz_D6cls_42
              have cA_c119 : SA oz_D6clsl_6 A A_c119 := SA_trans (cA_13) hA_c119 (any_subA (by decide +kernel))
              have mA_c119 := SAm_of cA_c119 oz_D6cls_43
              refine Ew_of (pcₚ := 121) (fun _ => x_istore rfl) ?_
              refine Ew_of (pcₚ := 122) (fun _ => x_aload_n rfl (rk_o (lc119_0) rfl rfl)) ?_
              refine v_g H (o := 0) (v := I (y9_0_4)) rfl rfl rfl rfl rfl (congrArg (fun z : Int => I z) ((((hS_c119 0 4 rfl).trans (hS_13 0 4 rfl)).trans ((eF9 0 4).trans ey9_0_4)) : F_c119 0 4 = y9_0_4)) ?_
              refine Ew_of (pcₚ := 127) (fun _ => x_iload rfl (rk_o (lc119_4) rfl rfl)) ?_
              refine w_isub rfl ?_
              refine Ew_of (pcₚ := 129) (fun _ => x_iconst rfl) ?_
              refine w_isub rfl ?_
              refine Ew_of (pcₚ := 132) (fun _ => x_iload rfl rk_s) ?_
              refine w_icmpge (t := 146) rfl rfl (show inr (((y9_0_4 - x13_4) - 4)) from q_3429 b20 j13_4 r10) (show inr (tc119_0) from jc119_0) (fun b27 => ?_) (fun b27 => ?_)
              · have hz7 : (tc119_0) = nvl (ub8 ((w3))) (q4 + 1) 3 := q_3430 b27 j13_4 jc119_2
                refine Ew_of (pcₚ := 148) (fun _ => x_iload rfl (rk_o (lc119_6) rfl rfl)) ?_
                have hc186 : ∀ (ls : rO) (σ : rS) (F_c186 : hF) (A_c186 : hA) , rlook ls 0 = some (.ref (D_13 0)) → rlook ls 4 = some (I (x13_4)) → rlook ls 5 = some (I (x13_5)) → rlook ls 6 = some (I ((v24 % 256))) → rlook ls 7 = some (I (tc119_0)) → HW V210_Row_Row σ D_13 N_13 F_c186 A_c186 → OUT (V210_Row_Row).length D N σE c s D_13 N_13 σ c_13 s_13 → SF [] F_c119 F_c186 → SA [] A_c119 A_c186 → (IMP (((v24 % 256)) = 255) ((tc119_0) = 6 ∧ MKQ (ub8 ((w3))) (q4) ((u1_1)))) → Ew 210 (d + 5) 186 ls [] σ c_13 s_13 Q := by
                 as_aux_lemma =>
                  intro  ls σ F_c186 A_c186  lc186_0 lc186_4 lc186_5 lc186_6 lc186_7 H O hS_c186 hA_c186     jc186_0
                  have cF_c186 : SF oz_D6clsl_13 F F_c186 := SF_trans (cF_c119) hS_c186 (any_sub (by decide +kernel))
                  have mF_c186 := SFm_of cF_c186 oz_D6cls_42
                  have cA_c186 : SA oz_D6clsl_6 A A_c186 := SA_trans (cA_c119) hA_c186 (any_subA (by decide +kernel))
                  have mA_c186 := SAm_of cA_c186 oz_D6cls_43
                  have k186 : IMP (((v24 % 256)) = 255) ((tc119_0) = 6 ∧ MKQ (ub8 ((w3))) (q4) ((u1_1))) := jc186_0
                  have hTg : TUg (ub8 ((w3))) ((u1_1)) (q4) (((v24 % 256))) ((tc119_0)) := ⟨hkd, by omega, by omega, by omega, hz7, by omega⟩
                  obtain ⟨q6, hq6⟩ : ∃ q : Int, q = ((v24 % 256)) := ⟨_, rfl⟩
                  refine Ew_of (pcₚ := 188) (fun _ => x_iload rfl lc186_6) ?_
                  have hc212 : ∀ (ls : rO) (σ : rS) (D_c212 N_c212 : Nat → Nat) (c_c212 s_c212 : Nat) (F_c212 : hF) (A_c212 : hA) , rlook ls 0 = some (.ref (D_c212 0)) → rlook ls 4 = some (I (x13_4)) → rlook ls 5 = some (I (x13_5)) → rlook ls 7 = some (I (tc119_0)) → HW V210_Row_Row σ D_c212 N_c212 F_c212 A_c212 → OUT (V210_Row_Row).length D N σE c s D_c212 N_c212 σ c_c212 s_c212 → SD [4] D_13 D_c212 → SD [4] N_13 N_c212 → SF [(0, 7), (0, 8), (2, 0), (2, 1), (2, 2)] F_c186 F_c212 → SA [4] A_c186 A_c212 → F_c212 2 0 = (D_c212 4 : Int) → ∀ mc212_4 : Int, (N_c212 4 : Int) = mc212_4 → ∀ yc212_2_1 : Int, F_c212 2 1 = yc212_2_1 → ∀ yc212_2_2 : Int, F_c212 2 2 = yc212_2_2 → ∀ wc212_4 : Int → Int, A_c212 4 = wc212_4 → (0 ≤ (x13_4) ∧ (x13_4) ≤ (y9_0_4)) → (0 ≤ (yc212_2_1) ∧ (yc212_2_1) ≤ (mc212_4) ∧ (mc212_4) ≤ 65536) → ((yc212_2_1) ≤ (a3)) → (0 ≤ (y9_0_4) ∧ (y9_0_4) ≤ (n3)) → ((yc212_2_2) = 0) → ((y9_0_6) = (a3) ∧ (y9_0_4) = (u1_1)) → (TUs (ub8 ((w3))) ((u1_1)) ((a3)) (q4, CX) (q4 + 4 + (tc119_0), sc ((wc212_4)) 0 ((yc212_2_1)))) → Ew 210 (d + 5) 212 ls [] σ c_c212 s_c212 Q := by
                   as_aux_lemma =>
                    intro  ls σ D_c212 N_c212 c_c212 s_c212 F_c212 A_c212  lc212_0 lc212_4 lc212_5 lc212_7 H O hD_c212 hN_c212 hS_c212 hA_c212 pmc212_4 mc212_4 emc212_4 yc212_2_1 eyc212_2_1 yc212_2_2 eyc212_2_2 wc212_4 ewc212_4 jc212_0 jc212_1 jc212_2 jc212_3 jc212_4 jc212_5 jc212_6
                    have cF_c212 : SF oz_D6clsl_13 F F_c212 := SF_trans (cF_c186) hS_c212 (any_sub (by decide +kernel))
                    have mF_c212 := SFm_of cF_c212 oz_D6cls_42
                    have cA_c212 : SA oz_D6clsl_6 A A_c212 := SA_trans (cA_c186) hA_c212 (any_subA (by decide +kernel))
                    have mA_c212 := SAm_of cA_c212 oz_D6cls_43
                    have cD_c212 : SD oz_D6clsl_6 D D_c212 := SD_trans (cD_13) hD_c212 (any_subA (by decide +kernel))
                    have mD_c212 := SDm_of cD_c212 oz_D6cls_43
                    have cN_c212 : SD oz_D6clsl_6 N N_c212 := SD_trans (cN_13) hN_c212 (any_subA (by decide +kernel))
                    have mN_c212 := SDm_of cN_c212 oz_D6cls_43
                    have pf_c212_0_3 : F_c212 0 3 = (D_c212 3 : Int) := (hS_c212 0 3 rfl).trans (((((hS_c186 0 3 rfl).trans (hS_c119 0 3 rfl))).trans (pf_13_0_3)).trans (congrArg (fun q : Nat => (q : Int)) (hD_c212 3 rfl).symm))
                    have pf_c212_0_5 : F_c212 0 5 = (D_c212 2 : Int) := (hS_c212 0 5 rfl).trans (((((hS_c186 0 5 rfl).trans (hS_c119 0 5 rfl))).trans (pf_13_0_5)).trans (congrArg (fun q : Nat => (q : Int)) (hD_c212 2 rfl).symm))
                    have r28 : (0 : Int) ≤ mc212_4 ∧ mc212_4 ≤ 1000000 := nleE (H.nle 4 (ltn len_V210_Row_Row_oz_D6cls rfl)) (show (N_c212 4 : Int) = mc212_4 from emc212_4)
                    have r29 : (-2147483648 : Int) ≤ yc212_2_1 ∧ yc212_2_1 ≤ 2147483647 := rngE (show (-2147483648 : Int) ≤ F_c212 2 1 ∧ F_c212 2 1 ≤ 2147483647 from H.krg 2 1 (ltn len_V210_Row_Row_oz_D6cls rfl)) (show F_c212 2 1 = yc212_2_1 from (eyc212_2_1))
                    have r30 : (0 : Int) ≤ yc212_2_2 ∧ yc212_2_2 ≤ 1 := rngE (show (0 : Int) ≤ F_c212 2 2 ∧ F_c212 2 2 ≤ 1 from H.krg 2 2 (ltn len_V210_Row_Row_oz_D6cls rfl)) (show F_c212 2 2 = yc212_2_2 from (eyc212_2_2))
                    have k212 : TUs (ub8 ((w3))) ((u1_1)) ((a3)) (q4, CX) (q4 + 4 + (tc119_0), sc ((wc212_4)) 0 ((yc212_2_1))) := by assumption
                    refine Ew_of (pcₚ := 214) (fun _ => x_iload rfl lc212_4) ?_
                    refine Ew_of (pcₚ := 215) (fun _ => x_iconst rfl) ?_
                    refine Ew_of (pcₚ := 217) (fun _ => x_iload rfl lc212_7) ?_
                    refine w_iadd rfl ?_
                    refine w_iadd rfl ?_
                    have : ITO (TUs (ub8 ((w3))) ((u1_1)) ((a3))) (TUe (ub8 ((w3))) ((u1_1)) ((a3))) (0, []) ((x13_4) + (4 + (tc119_0)), sc ((wc212_4)) 0 ((yc212_2_1))) := by have h := ITO_s j13_x k212; rw [show q4 + 4 + (tc119_0) = (x13_4) + (4 + (tc119_0)) by omega] at h; exact h
                    refine Ew_of (pcₚ := 221) (fun _ => x_istore rfl) ?_
                    refine Ew_of (pcₚ := 224) (fun _ => x_iinc (len := 3) rfl (rk_o (lc212_5) rfl rfl)) ?_
                    refine Ew_of (pcₚ := 13) (fun _ => x_goto rfl rfl) ?_
                    exact ih13 _ (msE hm13 q_16 (q_17 b16)) _ _ _ _ _ _ _ _ ((x13_4 + (4 + tc119_0))) ((x13_5 + 1)) (rk_o (rk_o (lc212_0) rfl rfl) rfl rfl) (rk_o (rk_s) rfl rfl) (rk_s) H O (SD_trans (hD_13) hD_c212 (any_subA (by decide +kernel))) (SD_trans (hN_13) hN_c212 (any_subA (by decide +kernel))) (SF_trans (SF_trans (SF_trans (hS_13) hS_c119 (any_sub (by decide +kernel))) hS_c186 (any_sub (by decide +kernel))) hS_c212 (any_sub (by decide +kernel))) (SA_trans (SA_trans (SA_trans (hA_13) hA_c119 (any_subA (by decide +kernel))) hA_c186 (any_subA (by decide +kernel))) hA_c212 (any_subA (by decide +kernel))) (pmc212_4) (mc212_4) (emc212_4) (yc212_2_1) ((eyc212_2_1)) (yc212_2_2) ((eyc212_2_2)) (wc212_4) (ewc212_4) (show inr ((x13_4 + (4 + tc119_0))) from q_3433 b27 jc119_1 jc212_0 r10) (show inr ((x13_5 + 1)) from q_3388 b16 j13_2 jc212_3 r5) (show (0) ≤ ((x13_5 + 1)) from q_14 j13_2) (show ((x13_5 + 1)) ≤ (0) ∨ ((x13_5 + 1)) ≤ ((y9_0_4)) from q_13 b16) (show 0 ≤ ((x13_4 + (4 + tc119_0))) ∧ ((x13_4 + (4 + tc119_0))) ≤ (y9_0_4) from q_3432 b27 jc119_1 jc212_0) (show 0 ≤ (yc212_2_1) ∧ (yc212_2_1) ≤ (mc212_4) ∧ (mc212_4) ≤ 65536 from jc212_1) (show (yc212_2_1) ≤ (a3) from jc212_2) (show 0 ≤ (y9_0_4) ∧ (y9_0_4) ≤ (n3) from jc212_3) (show (yc212_2_2) = 0 from jc212_4) (show (y9_0_6) = (a3) ∧ (y9_0_4) = (u1_1) from jc212_5) (show ((x13_5 + 1)) ≤ ((x13_4 + (4 + tc119_0))) from q_3431 j13_10 jc119_1) (show ITO (TUs (ub8 ((w3))) ((u1_1)) ((a3))) (TUe (ub8 ((w3))) ((u1_1)) ((a3))) (0, []) (((x13_4 + (4 + tc119_0))), sc ((wc212_4)) 0 ((yc212_2_1))) by assumption) rfl
                  refine Ew_of (pcₚ := 189) (fun _ => x_iconst rfl) ?_
                  refine w_icmpge (t := 212) rfl rfl (show inr ((v24 % 256)) from q_3434 b26) (show inr (2) from q_122) (fun b31 => ?_) (fun b31 => ?_)
                  · have : TUs (ub8 ((w3))) ((u1_1)) ((a3)) (q4, CX) (q4 + 4 + (tc119_0), sc ((w13_4)) 0 ((y13_2_1))) := by first | (rw [← hCX]; exact TUs_n (k := q6) (by omega) (TUh_0 (pl := 0) (by rw [hq6]; exact hTg) (by rcases (show q6 = 255 ∨ q6 ≠ 255 by omega) with z | z; (exact .inl ⟨z, (k186 (by omega)).1, (k186 (by omega)).2⟩); (exact .inr (.inr ⟨by omega, z⟩))) rfl) (by omega) rfl) | (obtain ⟨x, pl0, X, y, w1, w2⟩ := hcy (by omega); rw [← hCX, ← hq4] at y; rw [← hq4] at w1; rw [← hCX] at w2; exact TUs_y (by omega) (TUh_0 (pl := 0) hTg (.inr (.inl ⟨by omega, x⟩)) rfl) (by omega) y w1 rfl w2)
                    exact hc212  _ _ _ _ _ _ _ _  (lc186_0) (lc186_4) (lc186_5) (lc186_7) H O (SD_refl) (SD_refl) (SF_refl) (SA_refl) ((((hS_c186 2 0 rfl).trans (hS_c119 2 0 rfl))).trans (pm13_4)) (m13_4) (em13_4) (y13_2_1) ((((hS_c186 2 1 rfl).trans (hS_c119 2 1 rfl)).trans (ey13_2_1))) (y13_2_2) ((((hS_c186 2 2 rfl).trans (hS_c119 2 2 rfl)).trans (ey13_2_2))) (w13_4) ((funext (hA_c186 4 rfl)).trans ((funext (hA_c119 4 rfl)).trans (ew13_4))) (show 0 ≤ (x13_4) ∧ (x13_4) ≤ (y9_0_4) from j13_4) (show 0 ≤ (y13_2_1) ∧ (y13_2_1) ≤ (m13_4) ∧ (m13_4) ≤ 65536 from j13_5) (show (y13_2_1) ≤ (a3) from j13_6) (show 0 ≤ (y9_0_4) ∧ (y9_0_4) ≤ (n3) from j13_7) (show (y13_2_2) = 0 from j13_8) (show (y9_0_6) = (a3) ∧ (y9_0_4) = (u1_1) from j13_9) (show TUs (ub8 ((w3))) ((u1_1)) ((a3)) (q4, CX) (q4 + 4 + (tc119_0), sc ((w13_4)) 0 ((y13_2_1))) by assumption)
                  · refine Ew_of (pcₚ := 193) (fun _ => x_aload_n rfl lc186_0) ?_
                    refine Ew_of (pcₚ := 195) (fun _ => x_iload rfl lc186_4) ?_
                    refine Ew_of (pcₚ := 197) (fun _ => x_iload rfl lc186_6) ?_
                    refine Ew_of (pcₚ := 199) (fun _ => x_iload rfl lc186_7) ?_
                    have r32 : (-2147483648 : Int) ≤ F_13 0 8 ∧ F_13 0 8 ≤ 2147483647 := rngE (show (-2147483648 : Int) ≤ F_c186 0 8 ∧ F_c186 0 8 ≤ 2147483647 from H.krg 0 8 (ltn len_V210_Row_Row_oz_D6cls rfl)) (show F_c186 0 8 = F_13 0 8 from ((hS_c186 0 8 rfl).trans (hS_c119 0 8 rfl)))
                    refine v_inv H (o := 0) rfl rfl rfl rfl rfl rfl (by rfl) (C211 (D := puc 537396736 D_13) (N := puc 537396736 N_13) (HW_subc H oz_D6cls_38 oz_D6cls_44) (STC_out HT HE O) ((((hS_c186 0 3 rfl).trans (hS_c119 0 3 rfl))).trans (pf_13_0_3)) ((((hS_c186 0 5 rfl).trans (hS_c119 0 5 rfl))).trans (pf_13_0_5)) ((((hS_c186 2 0 rfl).trans (hS_c119 2 0 rfl))).trans (pm13_4)) (n3) ((congrArg (fun q : Nat => (q : Int)) (mN_13 3 rfl)).trans (en3)) (m13_4) (em13_4) (y9_0_6) (((((hS_c186 0 6 rfl).trans (hS_c119 0 6 rfl)).trans (hS_13 0 6 rfl)).trans ((eF9 0 6).trans ey9_0_6))) (F_13 0 8) (((hS_c186 0 8 rfl).trans (hS_c119 0 8 rfl))) (y13_2_1) ((((hS_c186 2 1 rfl).trans (hS_c119 2 1 rfl)).trans (ey13_2_1))) (y13_2_2) ((((hS_c186 2 2 rfl).trans (hS_c119 2 2 rfl)).trans (ey13_2_2))) (w3) ((funext (mA_c186 3 rfl)).trans (ew3)) (w13_4) ((funext (hA_c186 4 rfl)).trans ((funext (hA_c119 4 rfl)).trans (ew13_4))) (show inr (x13_4) from j13_0) (show inr ((v24 % 256)) from q_3434 b31) (show inr (tc119_0) from jc119_0) (show 0 ≤ (x13_4) ∧ 0 ≤ (tc119_0) ∧ (x13_4) + 4 + (tc119_0) ≤ (n3) ∧ (n3) ≤ 65536 from q_3437 b27 h1 j13_4 j13_7 jc119_1) (show 0 ≤ (y13_2_1) ∧ (y13_2_1) ≤ (m13_4) ∧ (m13_4) ≤ 65536 from j13_5) (show 0 ≤ (y9_0_6) ∧ (y9_0_6) ≤ 65536 ∧ (y13_2_1) ≤ (y9_0_6) from q_3436 h3 j13_6 j13_9) (show (y13_2_2) = 0 from j13_8) (show 0 ≤ ((v24 % 256)) ∧ ((v24 % 256)) ≤ 1 from q_3435 b31) (fun z33 σ33 D33ₚ N33ₚ F33ₚ A33ₚ c33 s33 Hₚ Oₚ hD33 hN33 hS33 hA33 pm33_3 m33_3 em33_3 y33_0_8 ey33_0_8 y33_2_1 ey33_2_1 y33_2_2 ey33_2_2 w33_3 ew33_3 pz33_0 pz33_1 pz33_2 pz33_3 pz33_4 pz33_5 pz33_6 => ⟨rfl, ?_⟩))
                    refine v_backMc (c := c_13) (s := s_13) H oz_D6cls_38 oz_D6cls_44 Hₚ Oₚ hD33 oz_D6cls_39 (fun D33 N33 F33 A33 H Oₚ eD33 eN33 eF33 eA33 => ?_)
                    have O := OUT_trans O Oₚ
                    -- Tags.unpackChunk
                    have cF33 : SF oz_D6clsl_13 F F33 := SF_trans (cF_c186) (SF_gluc (ι := oz_D6clsl_14) oz_D6cls_44 hS33 eF33 (by decide +kernel)) (any_sub (lₚ := [(0, 7), (0, 8), (2, 0), (2, 1), (2, 2)]) (by decide +kernel))
                    have mF33 := SFm_of cF33 oz_D6cls_42
                    have cA33 : SA oz_D6clsl_6 A A33 := SA_trans (cA_c186) (SA_gluc (ι := oz_D6clsl_14) oz_D6cls_44 hA33 eA33 (by decide +kernel)) (any_subA (lₚ := [4]) (by decide +kernel))
                    have mA33 := SAm_of cA33 oz_D6cls_43
                    have cD33 : SD oz_D6clsl_6 D D33 := SD_trans (cD_13) (SD_gluc (ι := oz_D6clsl_14) oz_D6cls_44 hD33 eD33 (by decide +kernel)) (any_subA (lₚ := [4]) (by decide +kernel))
                    have mD33 := SDm_of cD33 oz_D6cls_43
                    have cN33 : SD oz_D6clsl_6 N N33 := SD_trans (cN_13) (SD_gluc (ι := oz_D6clsl_14) oz_D6cls_44 hN33 eN33 (by decide +kernel)) (any_subA (lₚ := [4]) (by decide +kernel))
                    have mN33 := SDm_of cN33 oz_D6cls_43
                    have pf33_0_3 : F33 0 3 = (D33 3 : Int) := ((show F33 0 3 = F_c186 0 3 from (eF33 0 3).trans (hS33 0 3 rfl))).trans (((((hS_c186 0 3 rfl).trans (hS_c119 0 3 rfl))).trans (pf_13_0_3)).trans (congrArg (fun q : Nat => (q : Int)) ((show D33 3 = D_13 3 from (eD33 3).trans (hD33 1 rfl))).symm))
                    have pf33_0_5 : F33 0 5 = (D33 2 : Int) := ((show F33 0 5 = F_c186 0 5 from (eF33 0 5).trans (hS33 0 5 rfl))).trans (((((hS_c186 0 5 rfl).trans (hS_c119 0 5 rfl))).trans (pf_13_0_5)).trans (congrArg (fun q : Nat => (q : Int)) ((show D33 2 = D_13 2 from (eD33 2).trans (hD33 2 rfl))).symm))
                    have pf33_2_0 : F33 2 0 = (D33 4 : Int) := (eF33 2 0).trans (pm33_3.trans (congrArg (fun q : Nat => (q : Int)) (eD33 4).symm))
                    have r34 : (0 : Int) ≤ m33_3 ∧ m33_3 ≤ 1000000 := nleE (H.nle 4 (ltn len_V210_Row_Row_oz_D6cls rfl)) (show (N33 4 : Int) = m33_3 from (congrArg (fun q : Nat => (q : Int)) (eN33 4)).trans em33_3)
                    have r35 : (-2147483648 : Int) ≤ y33_0_8 ∧ y33_0_8 ≤ 2147483647 := rngE (show (-2147483648 : Int) ≤ F33 0 8 ∧ F33 0 8 ≤ 2147483647 from H.krg 0 8 (ltn len_V210_Row_Row_oz_D6cls rfl)) (show F33 0 8 = y33_0_8 from ((eF33 0 8).trans ey33_0_8))
                    have r36 : (-2147483648 : Int) ≤ y33_2_1 ∧ y33_2_1 ≤ 2147483647 := rngE (show (-2147483648 : Int) ≤ F33 2 1 ∧ F33 2 1 ≤ 2147483647 from H.krg 2 1 (ltn len_V210_Row_Row_oz_D6cls rfl)) (show F33 2 1 = y33_2_1 from ((eF33 2 1).trans ey33_2_1))
                    have r37 : (0 : Int) ≤ y33_2_2 ∧ y33_2_2 ≤ 1 := rngE (show (0 : Int) ≤ F33 2 2 ∧ F33 2 2 ≤ 1 from H.krg 2 2 (ltn len_V210_Row_Row_oz_D6cls rfl)) (show F33 2 2 = y33_2_2 from ((eF33 2 2).trans ey33_2_2))
                    have hcy := pz33_5
                    have hcf := pz33_6
                    try rw [show (y9_0_6) = (a3) by omega] at hcy
                    try rw [show (y9_0_6) = (a3) by omega] at hcf
                    refine Ew_of (pcₚ := 204) (fun _ => x_istore rfl) ?_
                    refine Ew_of (pcₚ := 206) (fun _ => x_iload rfl rk_s) ?_
                    refine w_ifeq (t := 212) rfl rfl (show inr (z33) from pz33_0) (fun b38 => ?_) (fun b38 => ?_)
                    · have : TUs (ub8 ((w3))) ((u1_1)) ((a3)) (q4, CX) (q4 + 4 + (tc119_0), sc ((w33_3)) 0 ((y33_2_1))) := by first | (rw [← hCX]; exact TUs_n (k := q6) (by omega) (TUh_0 (pl := 0) (by rw [hq6]; exact hTg) (by rcases (show q6 = 255 ∨ q6 ≠ 255 by omega) with z | z; (exact .inl ⟨z, (k186 (by omega)).1, (k186 (by omega)).2⟩); (exact .inr (.inr ⟨by omega, z⟩))) rfl) (by omega) rfl) | (obtain ⟨x, pl0, X, y, w1, w2⟩ := hcy (by omega); rw [← hCX, ← hq4] at y; rw [← hq4] at w1; rw [← hCX] at w2; exact TUs_y (by omega) (TUh_0 (pl := 0) hTg (.inr (.inl ⟨by omega, x⟩)) rfl) (by omega) y w1 rfl w2)
                      exact hc212  _ _ _ _ _ _ _ _  ((rk_o (lc186_0) rfl rfl).trans (congrArg (fun q : Nat => some (Value.ref q)) (((show D33 0 = D_13 0 from (eD33 0).trans (hD33 0 rfl)))).symm)) (rk_o (lc186_4) rfl rfl) (rk_o (lc186_5) rfl rfl) (rk_o (lc186_7) rfl rfl) H O (SD_trans (SD_refl) (SD_gluc (ι := oz_D6clsl_14) oz_D6cls_44 hD33 eD33 (by decide +kernel)) (any_subA (lₚ := [4]) (by decide +kernel))) (SD_trans (SD_refl) (SD_gluc (ι := oz_D6clsl_14) oz_D6cls_44 hN33 eN33 (by decide +kernel)) (any_subA (lₚ := [4]) (by decide +kernel))) (SF_trans (SF_refl) (SF_gluc (ι := oz_D6clsl_14) oz_D6cls_44 hS33 eF33 (by decide +kernel)) (any_sub (lₚ := [(0, 7), (0, 8), (2, 0), (2, 1), (2, 2)]) (by decide +kernel))) (SA_trans (SA_refl) (SA_gluc (ι := oz_D6clsl_14) oz_D6cls_44 hA33 eA33 (by decide +kernel)) (any_subA (lₚ := [4]) (by decide +kernel))) (pf33_2_0) (m33_3) ((congrArg (fun q : Nat => (q : Int)) (eN33 4)).trans em33_3) (y33_2_1) (((eF33 2 1).trans ey33_2_1)) (y33_2_2) (((eF33 2 2).trans ey33_2_2)) (w33_3) ((eA33 4).trans ew33_3) (show 0 ≤ (x13_4) ∧ (x13_4) ≤ (y9_0_4) from j13_4) (show 0 ≤ (y33_2_1) ∧ (y33_2_1) ≤ (m33_3) ∧ (m33_3) ≤ 65536 from pz33_2) (show (y33_2_1) ≤ (a3) from q_3398 j13_9 pz33_3) (show 0 ≤ (y9_0_4) ∧ (y9_0_4) ≤ (n3) from j13_7) (show (y33_2_2) = 0 from pz33_4) (show (y9_0_6) = (a3) ∧ (y9_0_4) = (u1_1) from j13_9) (show TUs (ub8 ((w3))) ((u1_1)) ((a3)) (q4, CX) (q4 + 4 + (tc119_0), sc ((w33_3)) 0 ((y33_2_1))) by assumption)
                    · refine Ew_of (pcₚ := 211) (fun _ => x_iload rfl rk_s) ?_
                      have : IMP (((z33) : Int) ≠ 0) (IT (TUs (ub8 ((w3))) ((u1_1)) ((a3))) (TUe (ub8 ((w3))) ((u1_1)) ((a3))) (0, []) (((z33) : Int), (y33_0_8), [])) := fun z => by rcases hcf z with ⟨x, y, w⟩ | ⟨x, f0, pl0, X, y, w⟩; (exact ITO_e j13_x (TUe_h (by omega) (TUh_10 hTg (by omega) x y (by omega)) z)); (rw [← hCX, ← hq4] at y; rcases w with ⟨w1, w2, w3⟩ | ⟨w1, w2, w3, w4⟩); (rw [w2, w3]; exact ITO_e j13_x (TUe_b (by omega) (TUh_0 (pl := 0) hTg (.inr (.inl ⟨by omega, x⟩)) rfl) (by omega) y w1)); (rw [← hq4] at w2; rw [w1] at y; exact ITO_e j13_x (TUe_c (by omega) (TUh_0 (pl := 0) hTg (.inr (.inl ⟨by omega, x⟩)) rfl) (by omega) y w2 w3 (by omega)))
                      have : IMP (((z33) : Int) = 0) (IT (TUs (ub8 ((w3))) ((u1_1)) ((a3))) (TUe (ub8 ((w3))) ((u1_1)) ((a3))) (0, []) (0, (y33_0_8), sc ((w33_3)) 0 ((y33_2_1)))) := fun z => absurd z (by omega)
                      exact w_ireturn rfl (k (z33) _ _ _ _ _ _ _ H O (cD33) (cN33) (cF33) (cA33) (pf33_2_0) (m33_3) ((congrArg (fun q : Nat => (q : Int)) (eN33 4)).trans em33_3) (y33_0_8) (((eF33 0 8).trans ey33_0_8)) (y33_2_1) (((eF33 2 1).trans ey33_2_1)) (y33_2_2) (((eF33 2 2).trans ey33_2_2)) (w33_3) ((eA33 4).trans ew33_3) (show inr (z33) from pz33_0) (show 0 ≤ (z33) ∧ (z33) ≤ 12 from pz33_1) (show 0 ≤ (y33_2_1) ∧ (y33_2_1) ≤ (m33_3) ∧ (m33_3) ≤ 65536 from pz33_2) (show (y33_2_2) = 0 from pz33_4) (show IMP ((z33) ≠ 0) (IT (TUs (ub8 ((w3))) ((u1_1)) (a3)) (TUe (ub8 ((w3))) ((u1_1)) (a3)) (0, []) ((z33), (y33_0_8), [])) by assumption) (show IMP ((z33) = 0) (IT (TUs (ub8 ((w3))) ((u1_1)) (a3)) (TUe (ub8 ((w3))) ((u1_1)) (a3)) (0, []) (0, (y33_0_8), sc ((w33_3)) 0 ((y33_2_1)))) by assumption) (show (z33) ≠ 0 ∨ (y33_0_8) = (u1_1) from q_3250 b38))
                refine Ew_of (pcₚ := 151) (fun _ => x_sipush (z := 255) rfl (by decide)) ?_
                refine w_icmpne (t := 186) rfl rfl (show inr ((v24 % 256)) from q_3434 b26) (show inr (255) from q_297) (fun b39 => ?_) (fun b39 => ?_)
                · have : IMP (((v24 % 256)) = 255) ((tc119_0) = 6 ∧ MKQ (ub8 ((w3))) (q4) ((u1_1))) := by first | exact fun z => absurd z (by omega) | exact fun z => ⟨by omega, by rcases hmk with ⟨x, y⟩ | ⟨x, y⟩; (exact y); (omega)⟩
                  exact hc186  _ _ _ _  (rk_o (lc119_0) rfl rfl) (rk_o (lc119_4) rfl rfl) (rk_o (lc119_5) rfl rfl) (rk_o (lc119_6) rfl rfl) (rk_s) H O (SF_refl) (SA_refl)     (show IMP (((v24 % 256)) = 255) ((tc119_0) = 6 ∧ MKQ (ub8 ((w3))) (q4) ((u1_1))) by assumption)
                · refine Ew_of (pcₚ := 156) (fun _ => x_iload rfl rk_s) ?_
                  refine Ew_of (pcₚ := 158) (fun _ => x_bipush (z := 6) rfl (by decide)) ?_
                  refine w_icmpne (t := 177) rfl rfl (show inr (tc119_0) from jc119_0) (show inr (6) from q_756) (fun b40 => ?_) (fun b40 => ?_)
                  · refine Ew_of (pcₚ := 178) (fun _ => x_aload_n rfl (rk_o (lc119_0) rfl rfl)) ?_
                    refine Ew_of (pcₚ := 180) (fun _ => x_bipush (z := 8) rfl (by decide)) ?_
                    refine Ew_of (pcₚ := 182) (fun _ => x_iload rfl (rk_o (lc119_4) rfl rfl)) ?_
                    have r41 : (-2147483648 : Int) ≤ F_13 0 8 ∧ F_13 0 8 ≤ 2147483647 := rngE (show (-2147483648 : Int) ≤ F_c119 0 8 ∧ F_c119 0 8 ≤ 2147483647 from H.krg 0 8 (ltn len_V210_Row_Row_oz_D6cls rfl)) (show F_c119 0 8 = F_13 0 8 from (hS_c119 0 8 rfl))
                    refine v_inv H (o := 0) rfl rfl rfl rfl rfl rfl (by rfl) (C203 (D := puc 0 D_13) (N := puc 0 N_13) (HW_subc H oz_D6cls_37 oz_D6cls_29) (F_13 0 8) ((hS_c119 0 8 rfl)) (show inr (8) from q_141) (show inr (x13_4) from j13_0) (fun z42 σ42 F42ₚ A42ₚ Hₚ Oₚ hS42 hA42 y42_0_8 ey42_0_8 pz42_0 pz42_1 pz42_2 => ⟨rfl, ?_⟩))
                    refine v_backc (c := c_13) (s := s_13) H oz_D6cls_37 oz_D6cls_29 Hₚ Oₚ (fun F42 A42 H Oₚ eF42 eA42 => ?_)
                    have O := OUT_trans O Oₚ
                    -- Tags.fail
                    have cF42 : SF oz_D6clsl_13 F F42 := SF_trans (cF_c119) (SF_gluc (ι := oz_D6clsl_8) oz_D6cls_29 hS42 eF42 (by decide +kernel)) (any_sub (lₚ := [(0, 8)]) (by decide +kernel))
                    have mF42 := SFm_of cF42 oz_D6cls_42
                    have cA42 : SA oz_D6clsl_6 A A42 := SA_trans (cA_c119) (SA_gluc (ι := oz_D6clsl_8) oz_D6cls_29 hA42 eA42 (by decide +kernel)) (any_subA (lₚ := []) (by decide +kernel))
                    have mA42 := SAm_of cA42 oz_D6cls_43
                    have r43 : (-2147483648 : Int) ≤ y42_0_8 ∧ y42_0_8 ≤ 2147483647 := rngE (show (-2147483648 : Int) ≤ F42 0 8 ∧ F42 0 8 ≤ 2147483647 from H.krg 0 8 (ltn len_V210_Row_Row_oz_D6cls rfl)) (show F42 0 8 = y42_0_8 from ((eF42 0 8).trans ey42_0_8))
                    have : IMP (((z42) : Int) ≠ 0) (IT (TUs (ub8 ((w3))) ((u1_1)) ((a3))) (TUe (ub8 ((w3))) ((u1_1)) ((a3))) (0, []) (((z42) : Int), (y42_0_8), [])) := fun z => ITO_e j13_x (TUe_h (by omega) (TUh_m (z := (tc119_0)) ⟨hkd, by omega, by omega, by omega, hz7, by omega⟩ (by omega) (fun q => by first | (have := q.1; omega) | (rcases hmk with ⟨x, y⟩ | ⟨x, y⟩; (omega); (exact y q.2))) (by omega) (by omega)) z)
                    have : IMP (((z42) : Int) = 0) (IT (TUs (ub8 ((w3))) ((u1_1)) ((a3))) (TUe (ub8 ((w3))) ((u1_1)) ((a3))) (0, []) (0, (y42_0_8), sc ((w13_4)) 0 ((y13_2_1)))) := fun z => absurd z (by omega)
                    exact w_ireturn rfl (k (z42) _ _ _ _ _ _ _ H O (cD_13) (cN_13) (cF42) (cA42) (((((show F42 2 0 = F_c119 2 0 from (eF42 2 0))).trans (hS_c119 2 0 rfl))).trans (pm13_4)) (m13_4) (em13_4) (y42_0_8) (((eF42 0 8).trans ey42_0_8)) (y13_2_1) (((((show F42 2 1 = F_c119 2 1 from (eF42 2 1))).trans (hS_c119 2 1 rfl)).trans (ey13_2_1))) (y13_2_2) (((((show F42 2 2 = F_c119 2 2 from (eF42 2 2))).trans (hS_c119 2 2 rfl)).trans (ey13_2_2))) (w13_4) (((show A42 4 = A_c119 4 from (eA42 4))).trans ((funext (hA_c119 4 rfl)).trans (ew13_4))) (show inr (z42) from pz42_0) (show 0 ≤ (z42) ∧ (z42) ≤ 12 from q_3439 pz42_1) (show 0 ≤ (y13_2_1) ∧ (y13_2_1) ≤ (m13_4) ∧ (m13_4) ≤ 65536 from j13_5) (show (y13_2_2) = 0 from j13_8) (show IMP ((z42) ≠ 0) (IT (TUs (ub8 ((w3))) ((u1_1)) (a3)) (TUe (ub8 ((w3))) ((u1_1)) (a3)) (0, []) ((z42), (y42_0_8), [])) by assumption) (show IMP ((z42) = 0) (IT (TUs (ub8 ((w3))) ((u1_1)) (a3)) (TUe (ub8 ((w3))) ((u1_1)) (a3)) (0, []) (0, (y42_0_8), sc ((w13_4)) 0 ((y13_2_1)))) by assumption) (show (z42) ≠ 0 ∨ (y42_0_8) = (u1_1) from q_3438 pz42_1))
                  · refine Ew_of (pcₚ := 162) (fun _ => x_aload_n rfl (rk_o (lc119_0) rfl rfl)) ?_
                    refine v_g H (o := 0) (v := .ref (D_13 3)) rfl rfl rfl rfl rfl (vrf (((hS_c119 0 3 rfl)).trans (pf_13_0_3))) ?_
                    refine Ew_of (pcₚ := 167) (fun _ => x_iload rfl (rk_o (lc119_4) rfl rfl)) ?_
                    refine Ew_of (pcₚ := 168) (fun _ => x_aload_n rfl (rk_o (lc119_0) rfl rfl)) ?_
                    refine v_g H (o := 0) (v := I (y9_0_4)) rfl rfl rfl rfl rfl (congrArg (fun z : Int => I z) ((((hS_c119 0 4 rfl).trans (hS_13 0 4 rfl)).trans ((eF9 0 4).trans ey9_0_4)) : F_c119 0 4 = y9_0_4)) ?_
                    refine w_stat24 rfl rfl (by rfl) (C192_Br (D := puc 3 D_13) (N := puc 3 N_13) (HW_subc H oz_D6cls_40 oz_D6cls_30) (STC_out HT HE O) (n3) ((congrArg (fun q : Nat => (q : Int)) (mN_13 3 rfl)).trans (en3)) (w3) ((funext (mA_c119 3 rfl)).trans (ew3)) (show inr (x13_4) from j13_0) (show inr (y9_0_4) from q_512 j13_7 r10) (show 0 ≤ (x13_4) ∧ 0 ≤ (y9_0_4) ∧ (y9_0_4) ≤ (n3) ∧ (n3) ≤ 65536 ∧ (x13_4) ≤ 200000 from q_3440 b20 h1 j13_4 j13_7 r5) (fun z44 σ44 F44ₚ A44ₚ Hₚ Oₚ hS44 hA44 pz44_0 pz44_1 => ⟨rretB rfl pz44_0, ?_⟩))
                    refine v_backc (c := c_13) (s := s_13) H oz_D6cls_40 oz_D6cls_30 Hₚ Oₚ (fun F44 A44 H Oₚ eF44 eA44 => ?_)
                    have O := OUT_trans O Oₚ
                    -- Tags.isMark
                    have cF44 : SF oz_D6clsl_13 F F44 := SF_trans (cF_c119) (SF_gluc (ι := oz_D6clsl_3) oz_D6cls_30 hS44 eF44 (by decide +kernel)) (any_sub (lₚ := []) (by decide +kernel))
                    have mF44 := SFm_of cF44 oz_D6cls_42
                    have cA44 : SA oz_D6clsl_6 A A44 := SA_trans (cA_c119) (SA_gluc (ι := oz_D6clsl_3) oz_D6cls_30 hA44 eA44 (by decide +kernel)) (any_subA (lₚ := []) (by decide +kernel))
                    have mA44 := SAm_of cA44 oz_D6cls_43
                    have hmk := ISM_K pz44_1 (by show (ub8 ((w3))) ((x13_4)) = 255; rw [← hq4, hkd]; omega) (by rw [← nvl_ub, ← hq4, ← hz7]; omega)
                    rw [← hq4] at hmk
                    try rw [show (y9_0_4) = (u1_1) by omega] at hmk
                    refine w_ifne (t := 186) rfl rfl (show inr (z44) from q_138 pz44_0) (fun b45 => ?_) (fun b45 => ?_)
                    · have : IMP (((v24 % 256)) = 255) ((tc119_0) = 6 ∧ MKQ (ub8 ((w3))) (q4) ((u1_1))) := by first | exact fun z => absurd z (by omega) | exact fun z => ⟨by omega, by rcases hmk with ⟨x, y⟩ | ⟨x, y⟩; (exact y); (omega)⟩
                      exact hc186  _ _ _ _  (rk_o (lc119_0) rfl rfl) (rk_o (lc119_4) rfl rfl) (rk_o (lc119_5) rfl rfl) (rk_o (lc119_6) rfl rfl) (rk_s) H O (SF_trans (SF_refl) (SF_gluc (ι := oz_D6clsl_3) oz_D6cls_30 hS44 eF44 (by decide +kernel)) (any_sub (lₚ := []) (by decide +kernel))) (SA_trans (SA_refl) (SA_gluc (ι := oz_D6clsl_3) oz_D6cls_30 hA44 eA44 (by decide +kernel)) (any_subA (lₚ := []) (by decide +kernel)))     (show IMP (((v24 % 256)) = 255) ((tc119_0) = 6 ∧ MKQ (ub8 ((w3))) (q4) ((u1_1))) by assumption)
                    · refine Ew_of (pcₚ := 178) (fun _ => x_aload_n rfl (rk_o (lc119_0) rfl rfl)) ?_
                      refine Ew_of (pcₚ := 180) (fun _ => x_bipush (z := 8) rfl (by decide)) ?_
                      refine Ew_of (pcₚ := 182) (fun _ => x_iload rfl (rk_o (lc119_4) rfl rfl)) ?_
                      have r46 : (-2147483648 : Int) ≤ F_13 0 8 ∧ F_13 0 8 ≤ 2147483647 := rngE (show (-2147483648 : Int) ≤ F44 0 8 ∧ F44 0 8 ≤ 2147483647 from H.krg 0 8 (ltn len_V210_Row_Row_oz_D6cls rfl)) (show F44 0 8 = F_13 0 8 from (((show F44 0 8 = F_c119 0 8 from (eF44 0 8))).trans (hS_c119 0 8 rfl)))
                      refine v_inv H (o := 0) rfl rfl rfl rfl rfl rfl (by rfl) (C203 (D := puc 0 D_13) (N := puc 0 N_13) (HW_subc H oz_D6cls_37 oz_D6cls_29) (F_13 0 8) ((((show F44 0 8 = F_c119 0 8 from (eF44 0 8))).trans (hS_c119 0 8 rfl))) (show inr (8) from q_141) (show inr (x13_4) from j13_0) (fun z47 σ47 F47ₚ A47ₚ Hₚ Oₚ hS47 hA47 y47_0_8 ey47_0_8 pz47_0 pz47_1 pz47_2 => ⟨rfl, ?_⟩))
                      refine v_backc (c := c_13) (s := s_13) H oz_D6cls_37 oz_D6cls_29 Hₚ Oₚ (fun F47 A47 H Oₚ eF47 eA47 => ?_)
                      have O := OUT_trans O Oₚ
                      -- Tags.fail
                      have cF47 : SF oz_D6clsl_13 F F47 := SF_trans (cF44) (SF_gluc (ι := oz_D6clsl_8) oz_D6cls_29 hS47 eF47 (by decide +kernel)) (any_sub (lₚ := [(0, 8)]) (by decide +kernel))
                      have mF47 := SFm_of cF47 oz_D6cls_42
                      have cA47 : SA oz_D6clsl_6 A A47 := SA_trans (cA44) (SA_gluc (ι := oz_D6clsl_8) oz_D6cls_29 hA47 eA47 (by decide +kernel)) (any_subA (lₚ := []) (by decide +kernel))
                      have mA47 := SAm_of cA47 oz_D6cls_43
                      have r48 : (-2147483648 : Int) ≤ y47_0_8 ∧ y47_0_8 ≤ 2147483647 := rngE (show (-2147483648 : Int) ≤ F47 0 8 ∧ F47 0 8 ≤ 2147483647 from H.krg 0 8 (ltn len_V210_Row_Row_oz_D6cls rfl)) (show F47 0 8 = y47_0_8 from ((eF47 0 8).trans ey47_0_8))
                      have : IMP (((z47) : Int) ≠ 0) (IT (TUs (ub8 ((w3))) ((u1_1)) ((a3))) (TUe (ub8 ((w3))) ((u1_1)) ((a3))) (0, []) (((z47) : Int), (y47_0_8), [])) := fun z => ITO_e j13_x (TUe_h (by omega) (TUh_m (z := (tc119_0)) ⟨hkd, by omega, by omega, by omega, hz7, by omega⟩ (by omega) (fun q => by first | (have := q.1; omega) | (rcases hmk with ⟨x, y⟩ | ⟨x, y⟩; (omega); (exact y q.2))) (by omega) (by omega)) z)
                      have : IMP (((z47) : Int) = 0) (IT (TUs (ub8 ((w3))) ((u1_1)) ((a3))) (TUe (ub8 ((w3))) ((u1_1)) ((a3))) (0, []) (0, (y47_0_8), sc ((w13_4)) 0 ((y13_2_1)))) := fun z => absurd z (by omega)
                      exact w_ireturn rfl (k (z47) _ _ _ _ _ _ _ H O (cD_13) (cN_13) (cF47) (cA47) ((((((show F47 2 0 = F44 2 0 from (eF47 2 0))).trans ((show F44 2 0 = F_c119 2 0 from (eF44 2 0)))).trans (hS_c119 2 0 rfl))).trans (pm13_4)) (m13_4) (em13_4) (y47_0_8) (((eF47 0 8).trans ey47_0_8)) (y13_2_1) ((((((show F47 2 1 = F44 2 1 from (eF47 2 1))).trans ((show F44 2 1 = F_c119 2 1 from (eF44 2 1)))).trans (hS_c119 2 1 rfl)).trans (ey13_2_1))) (y13_2_2) ((((((show F47 2 2 = F44 2 2 from (eF47 2 2))).trans ((show F44 2 2 = F_c119 2 2 from (eF44 2 2)))).trans (hS_c119 2 2 rfl)).trans (ey13_2_2))) (w13_4) (((show A47 4 = A44 4 from (eA47 4))).trans (((show A44 4 = A_c119 4 from (eA44 4))).trans ((funext (hA_c119 4 rfl)).trans (ew13_4)))) (show inr (z47) from pz47_0) (show 0 ≤ (z47) ∧ (z47) ≤ 12 from q_3439 pz47_1) (show 0 ≤ (y13_2_1) ∧ (y13_2_1) ≤ (m13_4) ∧ (m13_4) ≤ 65536 from j13_5) (show (y13_2_2) = 0 from j13_8) (show IMP ((z47) ≠ 0) (IT (TUs (ub8 ((w3))) ((u1_1)) (a3)) (TUe (ub8 ((w3))) ((u1_1)) (a3)) (0, []) ((z47), (y47_0_8), [])) by assumption) (show IMP ((z47) = 0) (IT (TUs (ub8 ((w3))) ((u1_1)) (a3)) (TUe (ub8 ((w3))) ((u1_1)) (a3)) (0, []) (0, (y47_0_8), sc ((w13_4)) 0 ((y13_2_1)))) by assumption) (show (z47) ≠ 0 ∨ (y47_0_8) = (u1_1) from q_3438 pz47_1))
              · have hz7b : (y9_0_4) < (x13_4) + 4 ∨ (tc119_0) = nvl (ub8 ((w3))) (q4 + 1) 3 := q_3441 jc119_2
                refine Ew_of (pcₚ := 136) (fun _ => x_aload_n rfl (rk_o (lc119_0) rfl rfl)) ?_
                refine Ew_of (pcₚ := 138) (fun _ => x_bipush (z := 7) rfl (by decide)) ?_
                refine Ew_of (pcₚ := 139) (fun _ => x_aload_n rfl (rk_o (lc119_0) rfl rfl)) ?_
                refine v_g H (o := 0) (v := I (y9_0_4)) rfl rfl rfl rfl rfl (congrArg (fun z : Int => I z) ((((hS_c119 0 4 rfl).trans (hS_13 0 4 rfl)).trans ((eF9 0 4).trans ey9_0_4)) : F_c119 0 4 = y9_0_4)) ?_
                have r49 : (-2147483648 : Int) ≤ F_13 0 8 ∧ F_13 0 8 ≤ 2147483647 := rngE (show (-2147483648 : Int) ≤ F_c119 0 8 ∧ F_c119 0 8 ≤ 2147483647 from H.krg 0 8 (ltn len_V210_Row_Row_oz_D6cls rfl)) (show F_c119 0 8 = F_13 0 8 from (hS_c119 0 8 rfl))
                refine v_inv H (o := 0) rfl rfl rfl rfl rfl rfl (by rfl) (C203 (D := puc 0 D_13) (N := puc 0 N_13) (HW_subc H oz_D6cls_37 oz_D6cls_29) (F_13 0 8) ((hS_c119 0 8 rfl)) (show inr (7) from q_597) (show inr (y9_0_4) from q_512 j13_7 r10) (fun z50 σ50 F50ₚ A50ₚ Hₚ Oₚ hS50 hA50 y50_0_8 ey50_0_8 pz50_0 pz50_1 pz50_2 => ⟨rfl, ?_⟩))
                refine v_backc (c := c_13) (s := s_13) H oz_D6cls_37 oz_D6cls_29 Hₚ Oₚ (fun F50 A50 H Oₚ eF50 eA50 => ?_)
                have O := OUT_trans O Oₚ
                -- Tags.fail
                have cF50 : SF oz_D6clsl_13 F F50 := SF_trans (cF_c119) (SF_gluc (ι := oz_D6clsl_8) oz_D6cls_29 hS50 eF50 (by decide +kernel)) (any_sub (lₚ := [(0, 8)]) (by decide +kernel))
                have mF50 := SFm_of cF50 oz_D6cls_42
                have cA50 : SA oz_D6clsl_6 A A50 := SA_trans (cA_c119) (SA_gluc (ι := oz_D6clsl_8) oz_D6cls_29 hA50 eA50 (by decide +kernel)) (any_subA (lₚ := []) (by decide +kernel))
                have mA50 := SAm_of cA50 oz_D6cls_43
                have r51 : (-2147483648 : Int) ≤ y50_0_8 ∧ y50_0_8 ≤ 2147483647 := rngE (show (-2147483648 : Int) ≤ F50 0 8 ∧ F50 0 8 ≤ 2147483647 from H.krg 0 8 (ltn len_V210_Row_Row_oz_D6cls rfl)) (show F50 0 8 = y50_0_8 from ((eF50 0 8).trans ey50_0_8))
                have : IMP (((z50) : Int) ≠ 0) (IT (TUs (ub8 ((w3))) ((u1_1)) ((a3))) (TUe (ub8 ((w3))) ((u1_1)) ((a3))) (0, []) (((z50) : Int), (y50_0_8), [])) := fun z => ITO_e j13_x ((Decidable.em ((y9_0_4) < (x13_4) + 4)).elim (fun w => TUe_h (z := 0) (by omega) (TUh_7 hkd (by omega) (by omega) (by omega) (by omega) (by omega)) z) (fun w => TUe_h (by omega) (TUh_z hkd (by omega) (by omega) (by omega) (show (tc119_0) = nvl (ub8 ((w3))) (q4 + 1) 3 by omega) (by omega) (by omega) (by omega)) z))
                have : IMP (((z50) : Int) = 0) (IT (TUs (ub8 ((w3))) ((u1_1)) ((a3))) (TUe (ub8 ((w3))) ((u1_1)) ((a3))) (0, []) (0, (y50_0_8), sc ((w13_4)) 0 ((y13_2_1)))) := fun z => absurd z (by omega)
                exact w_ireturn rfl (k (z50) _ _ _ _ _ _ _ H O (cD_13) (cN_13) (cF50) (cA50) (((((show F50 2 0 = F_c119 2 0 from (eF50 2 0))).trans (hS_c119 2 0 rfl))).trans (pm13_4)) (m13_4) (em13_4) (y50_0_8) (((eF50 0 8).trans ey50_0_8)) (y13_2_1) (((((show F50 2 1 = F_c119 2 1 from (eF50 2 1))).trans (hS_c119 2 1 rfl)).trans (ey13_2_1))) (y13_2_2) (((((show F50 2 2 = F_c119 2 2 from (eF50 2 2))).trans (hS_c119 2 2 rfl)).trans (ey13_2_2))) (w13_4) (((show A50 4 = A_c119 4 from (eA50 4))).trans ((funext (hA_c119 4 rfl)).trans (ew13_4))) (show inr (z50) from pz50_0) (show 0 ≤ (z50) ∧ (z50) ≤ 12 from q_3443 pz50_1) (show 0 ≤ (y13_2_1) ∧ (y13_2_1) ≤ (m13_4) ∧ (m13_4) ≤ 65536 from j13_5) (show (y13_2_2) = 0 from j13_8) (show IMP ((z50) ≠ 0) (IT (TUs (ub8 ((w3))) ((u1_1)) (a3)) (TUe (ub8 ((w3))) ((u1_1)) (a3)) (0, []) ((z50), (y50_0_8), [])) by assumption) (show IMP ((z50) = 0) (IT (TUs (ub8 ((w3))) ((u1_1)) (a3)) (TUe (ub8 ((w3))) ((u1_1)) (a3)) (0, []) (0, (y50_0_8), sc ((w13_4)) 0 ((y13_2_1)))) by assumption) (show (z50) ≠ 0 ∨ (y50_0_8) = (u1_1) from q_3442 pz50_1))
            refine Ew_of (pcₚ := 89) (fun _ => x_aload_n rfl (rk_o (l13_0) rfl rfl)) ?_
            refine v_g H (o := 0) (v := I (y9_0_4)) rfl rfl rfl rfl rfl (congrArg (fun z : Int => I z) (((hS_13 0 4 rfl).trans ((eF9 0 4).trans ey9_0_4)) : F_13 0 4 = y9_0_4)) ?_
            refine Ew_of (pcₚ := 94) (fun _ => x_iload rfl (rk_o (l13_4) rfl rfl)) ?_
            refine w_isub rfl ?_
            refine Ew_of (pcₚ := 96) (fun _ => x_iconst rfl) ?_
            refine w_icmpge (t := 106) rfl rfl (show inr ((y9_0_4 - x13_4)) from q_3382 b20 j13_4 r10) (show inr (4) from q_216) (fun b52 => ?_) (fun b52 => ?_)
            · refine Ew_of (pcₚ := 107) (fun _ => x_aload_n rfl (rk_o (l13_0) rfl rfl)) ?_
              refine v_g H (o := 0) (v := .ref (D_13 3)) rfl rfl rfl rfl rfl (vrf (pf_13_0_3)) ?_
              refine Ew_of (pcₚ := 112) (fun _ => x_iload rfl (rk_o (l13_4) rfl rfl)) ?_
              refine Ew_of (pcₚ := 113) (fun _ => x_iconst rfl) ?_
              refine w_iadd rfl ?_
              refine Ew_of (pcₚ := 115) (fun _ => x_iconst rfl) ?_
              refine w_stat25 rfl rfl (by rfl) (C42_Br (D := puc 3 D_13) (N := puc 3 N_13) (HW_subc H oz_D6cls_41 oz_D6cls_30) (n3) ((congrArg (fun q : Nat => (q : Int)) (mN_13 3 rfl)).trans (en3)) (w3) ((funext (mA_13 3 rfl)).trans (ew3)) (show inr ((x13_4 + 1)) from q_3445 b52 j13_4 j13_7 r5) (show inr (3) from q_246) (show (3) ≤ 0 ∨ 0 ≤ ((x13_4 + 1)) ∧ ((x13_4 + 1)) + (3) ≤ (n3) from q_3444 b52 j13_4 j13_7) (show 0 ≤ (3) ∧ (3) ≤ 8 from q_2174) (fun z53 σ53 F53ₚ A53ₚ Hₚ Oₚ hS53 hA53 pz53_0 pz53_1 pz53_2 => ⟨rfl, ?_⟩))
              refine v_backc (c := c_13) (s := s_13) H oz_D6cls_41 oz_D6cls_30 Hₚ Oₚ (fun F53 A53 H Oₚ eF53 eA53 => ?_)
              have O := OUT_trans O Oₚ
              -- PackHouse.number
              have cF53 : SF oz_D6clsl_13 F F53 := SF_trans (cF_13) (SF_gluc (ι := oz_D6clsl_3) oz_D6cls_30 hS53 eF53 (by decide +kernel)) (any_sub (lₚ := []) (by decide +kernel))
              have mF53 := SFm_of cF53 oz_D6cls_42
              have cA53 : SA oz_D6clsl_6 A A53 := SA_trans (cA_13) (SA_gluc (ι := oz_D6clsl_3) oz_D6cls_30 hA53 eA53 (by decide +kernel)) (any_subA (lₚ := []) (by decide +kernel))
              have mA53 := SAm_of cA53 oz_D6cls_43
              have hb3 := nb3 pz53_1
              have hn3 : (z53) = nvl (ub8 ((w3))) (q4 + 1) 3 := by rw [nvl_ub, hq4]; exact nmb_nn pz53_2 (by omega) pz53_0
              refine w_l2i rfl ?_
              exact hc119 (z53) _ _ _ _  (rk_o (l13_0) rfl rfl) (rk_o (l13_4) rfl rfl) (rk_o (l13_5) rfl rfl) (rk_s) H O (SF_trans (SF_refl) (SF_gluc (ι := oz_D6clsl_3) oz_D6cls_30 hS53 eF53 (by decide +kernel)) (any_sub (lₚ := []) (by decide +kernel))) (SA_trans (SA_refl) (SA_gluc (ι := oz_D6clsl_3) oz_D6cls_30 hA53 eA53 (by decide +kernel)) (any_subA (lₚ := []) (by decide +kernel)))     (show inr (z53) by omega) (show 0 ≤ (z53) ∧ (z53) ≤ 16777215 by omega) (show (y9_0_4) < (x13_4) + 4 ∧ (z53) = (y9_0_4) ∨ (x13_4) + 4 ≤ (y9_0_4) ∧ (z53) = nvl (ub8 ((w3))) (q4 + 1) 3 from q_3446 b52 hn3)
            · refine Ew_of (pcₚ := 100) (fun _ => x_aload_n rfl (rk_o (l13_0) rfl rfl)) ?_
              refine v_g H (o := 0) (v := I (y9_0_4)) rfl rfl rfl rfl rfl (congrArg (fun z : Int => I z) (((hS_13 0 4 rfl).trans ((eF9 0 4).trans ey9_0_4)) : F_13 0 4 = y9_0_4)) ?_
              refine Ew_of (pcₚ := 119) (fun _ => x_goto rfl rfl) ?_
              exact hc119 (y9_0_4) _ _ _ _  (rk_o (l13_0) rfl rfl) (rk_o (l13_4) rfl rfl) (rk_o (l13_5) rfl rfl) (rk_s) H O (SF_refl) (SA_refl)     (show inr (y9_0_4) from q_512 j13_7 r10) (show 0 ≤ (y9_0_4) ∧ (y9_0_4) ≤ 16777215 from q_3448 j13_7 r5) (show (y9_0_4) < (x13_4) + 4 ∧ (y9_0_4) = (y9_0_4) ∨ (x13_4) + 4 ≤ (y9_0_4) ∧ (y9_0_4) = nvl (ub8 ((w3))) (q4 + 1) 3 from q_3447 b52)
          · refine Ew_of (pcₚ := 74) (fun _ => x_iload rfl rk_s) ?_
            refine Ew_of (pcₚ := 76) (fun _ => x_bipush (z := 127) rfl (by decide)) ?_
            refine w_icmpgt (t := 88) rfl rfl (show inr ((v24 % 256)) from q_3449 b26) (show inr (127) from q_1119) (fun b54 => ?_) (fun b54 => ?_)
            · have hc119 : ∀ (tc119_0 : Int), ∀ (ls : rO) (σ : rS) (F_c119 : hF) (A_c119 : hA) , rlook ls 0 = some (.ref (D_13 0)) → rlook ls 4 = some (I (x13_4)) → rlook ls 5 = some (I (x13_5)) → rlook ls 6 = some (I ((v24 % 256))) → HW V210_Row_Row σ D_13 N_13 F_c119 A_c119 → OUT (V210_Row_Row).length D N σE c s D_13 N_13 σ c_13 s_13 → SF [] F_13 F_c119 → SA [] A_13 A_c119 → (inr (tc119_0)) → (0 ≤ (tc119_0) ∧ (tc119_0) ≤ 16777215) → ((y9_0_4) < (x13_4) + 4 ∧ (tc119_0) = (y9_0_4) ∨ (x13_4) + 4 ≤ (y9_0_4) ∧ (tc119_0) = nvl (ub8 ((w3))) (q4 + 1) 3) → Ew 210 (d + 5) 119 ls [I (tc119_0)] σ c_13 s_13 Q := by
               as_aux_lemma =>
                intro tc119_0 ls σ F_c119 A_c119  lc119_0 lc119_4 lc119_5 lc119_6 H O hS_c119 hA_c119     jc119_0 jc119_1 jc119_2
                have cF_c119 : SF oz_D6clsl_13 F F_c119 := SF_trans (cF_13) hS_c119 (any_sub (by decide +kernel))
                have mF_c119 := SFm_of cF_c119 oz_D6cls_42
                have cA_c119 : SA oz_D6clsl_6 A A_c119 := SA_trans (cA_13) hA_c119 (any_subA (by decide +kernel))
                have mA_c119 := SAm_of cA_c119 oz_D6cls_43
                refine Ew_of (pcₚ := 121) (fun _ => x_istore rfl) ?_
                refine Ew_of (pcₚ := 122) (fun _ => x_aload_n rfl (rk_o (lc119_0) rfl rfl)) ?_
                refine v_g H (o := 0) (v := I (y9_0_4)) rfl rfl rfl rfl rfl (congrArg (fun z : Int => I z) ((((hS_c119 0 4 rfl).trans (hS_13 0 4 rfl)).trans ((eF9 0 4).trans ey9_0_4)) : F_c119 0 4 = y9_0_4)) ?_
                refine Ew_of (pcₚ := 127) (fun _ => x_iload rfl (rk_o (lc119_4) rfl rfl)) ?_
                refine w_isub rfl ?_
                refine Ew_of (pcₚ := 129) (fun _ => x_iconst rfl) ?_
                refine w_isub rfl ?_
                refine Ew_of (pcₚ := 132) (fun _ => x_iload rfl rk_s) ?_
                refine w_icmpge (t := 146) rfl rfl (show inr (((y9_0_4 - x13_4) - 4)) from q_3429 b20 j13_4 r10) (show inr (tc119_0) from jc119_0) (fun b55 => ?_) (fun b55 => ?_)
                · have hz7 : (tc119_0) = nvl (ub8 ((w3))) (q4 + 1) 3 := q_3430 b55 j13_4 jc119_2
                  refine Ew_of (pcₚ := 148) (fun _ => x_iload rfl (rk_o (lc119_6) rfl rfl)) ?_
                  have hc186 : ∀ (ls : rO) (σ : rS) (F_c186 : hF) (A_c186 : hA) , rlook ls 0 = some (.ref (D_13 0)) → rlook ls 4 = some (I (x13_4)) → rlook ls 5 = some (I (x13_5)) → rlook ls 6 = some (I ((v24 % 256))) → rlook ls 7 = some (I (tc119_0)) → HW V210_Row_Row σ D_13 N_13 F_c186 A_c186 → OUT (V210_Row_Row).length D N σE c s D_13 N_13 σ c_13 s_13 → SF [] F_c119 F_c186 → SA [] A_c119 A_c186 → (IMP (((v24 % 256)) = 255) ((tc119_0) = 6 ∧ MKQ (ub8 ((w3))) (q4) ((u1_1)))) → Ew 210 (d + 5) 186 ls [] σ c_13 s_13 Q := by
                   as_aux_lemma =>
                    intro  ls σ F_c186 A_c186  lc186_0 lc186_4 lc186_5 lc186_6 lc186_7 H O hS_c186 hA_c186     jc186_0
                    have cF_c186 : SF oz_D6clsl_13 F F_c186 := SF_trans (cF_c119) hS_c186 (any_sub (by decide +kernel))
                    have mF_c186 := SFm_of cF_c186 oz_D6cls_42
                    have cA_c186 : SA oz_D6clsl_6 A A_c186 := SA_trans (cA_c119) hA_c186 (any_subA (by decide +kernel))
                    have mA_c186 := SAm_of cA_c186 oz_D6cls_43
                    have k186 : IMP (((v24 % 256)) = 255) ((tc119_0) = 6 ∧ MKQ (ub8 ((w3))) (q4) ((u1_1))) := jc186_0
                    have hTg : TUg (ub8 ((w3))) ((u1_1)) (q4) (((v24 % 256))) ((tc119_0)) := ⟨hkd, by omega, by omega, by omega, hz7, by omega⟩
                    obtain ⟨q6, hq6⟩ : ∃ q : Int, q = ((v24 % 256)) := ⟨_, rfl⟩
                    refine Ew_of (pcₚ := 188) (fun _ => x_iload rfl lc186_6) ?_
                    have hc212 : ∀ (ls : rO) (σ : rS) (D_c212 N_c212 : Nat → Nat) (c_c212 s_c212 : Nat) (F_c212 : hF) (A_c212 : hA) , rlook ls 0 = some (.ref (D_c212 0)) → rlook ls 4 = some (I (x13_4)) → rlook ls 5 = some (I (x13_5)) → rlook ls 7 = some (I (tc119_0)) → HW V210_Row_Row σ D_c212 N_c212 F_c212 A_c212 → OUT (V210_Row_Row).length D N σE c s D_c212 N_c212 σ c_c212 s_c212 → SD [4] D_13 D_c212 → SD [4] N_13 N_c212 → SF [(0, 7), (0, 8), (2, 0), (2, 1), (2, 2)] F_c186 F_c212 → SA [4] A_c186 A_c212 → F_c212 2 0 = (D_c212 4 : Int) → ∀ mc212_4 : Int, (N_c212 4 : Int) = mc212_4 → ∀ yc212_2_1 : Int, F_c212 2 1 = yc212_2_1 → ∀ yc212_2_2 : Int, F_c212 2 2 = yc212_2_2 → ∀ wc212_4 : Int → Int, A_c212 4 = wc212_4 → (0 ≤ (x13_4) ∧ (x13_4) ≤ (y9_0_4)) → (0 ≤ (yc212_2_1) ∧ (yc212_2_1) ≤ (mc212_4) ∧ (mc212_4) ≤ 65536) → ((yc212_2_1) ≤ (a3)) → (0 ≤ (y9_0_4) ∧ (y9_0_4) ≤ (n3)) → ((yc212_2_2) = 0) → ((y9_0_6) = (a3) ∧ (y9_0_4) = (u1_1)) → (TUs (ub8 ((w3))) ((u1_1)) ((a3)) (q4, CX) (q4 + 4 + (tc119_0), sc ((wc212_4)) 0 ((yc212_2_1)))) → Ew 210 (d + 5) 212 ls [] σ c_c212 s_c212 Q := by
                     as_aux_lemma =>
                      intro  ls σ D_c212 N_c212 c_c212 s_c212 F_c212 A_c212  lc212_0 lc212_4 lc212_5 lc212_7 H O hD_c212 hN_c212 hS_c212 hA_c212 pmc212_4 mc212_4 emc212_4 yc212_2_1 eyc212_2_1 yc212_2_2 eyc212_2_2 wc212_4 ewc212_4 jc212_0 jc212_1 jc212_2 jc212_3 jc212_4 jc212_5 jc212_6
                      have cF_c212 : SF oz_D6clsl_13 F F_c212 := SF_trans (cF_c186) hS_c212 (any_sub (by decide +kernel))
                      have mF_c212 := SFm_of cF_c212 oz_D6cls_42
                      have cA_c212 : SA oz_D6clsl_6 A A_c212 := SA_trans (cA_c186) hA_c212 (any_subA (by decide +kernel))
                      have mA_c212 := SAm_of cA_c212 oz_D6cls_43
                      have cD_c212 : SD oz_D6clsl_6 D D_c212 := SD_trans (cD_13) hD_c212 (any_subA (by decide +kernel))
                      have mD_c212 := SDm_of cD_c212 oz_D6cls_43
                      have cN_c212 : SD oz_D6clsl_6 N N_c212 := SD_trans (cN_13) hN_c212 (any_subA (by decide +kernel))
                      have mN_c212 := SDm_of cN_c212 oz_D6cls_43
                      have pf_c212_0_3 : F_c212 0 3 = (D_c212 3 : Int) := (hS_c212 0 3 rfl).trans (((((hS_c186 0 3 rfl).trans (hS_c119 0 3 rfl))).trans (pf_13_0_3)).trans (congrArg (fun q : Nat => (q : Int)) (hD_c212 3 rfl).symm))
                      have pf_c212_0_5 : F_c212 0 5 = (D_c212 2 : Int) := (hS_c212 0 5 rfl).trans (((((hS_c186 0 5 rfl).trans (hS_c119 0 5 rfl))).trans (pf_13_0_5)).trans (congrArg (fun q : Nat => (q : Int)) (hD_c212 2 rfl).symm))
                      have r56 : (0 : Int) ≤ mc212_4 ∧ mc212_4 ≤ 1000000 := nleE (H.nle 4 (ltn len_V210_Row_Row_oz_D6cls rfl)) (show (N_c212 4 : Int) = mc212_4 from emc212_4)
                      have r57 : (-2147483648 : Int) ≤ yc212_2_1 ∧ yc212_2_1 ≤ 2147483647 := rngE (show (-2147483648 : Int) ≤ F_c212 2 1 ∧ F_c212 2 1 ≤ 2147483647 from H.krg 2 1 (ltn len_V210_Row_Row_oz_D6cls rfl)) (show F_c212 2 1 = yc212_2_1 from (eyc212_2_1))
                      have r58 : (0 : Int) ≤ yc212_2_2 ∧ yc212_2_2 ≤ 1 := rngE (show (0 : Int) ≤ F_c212 2 2 ∧ F_c212 2 2 ≤ 1 from H.krg 2 2 (ltn len_V210_Row_Row_oz_D6cls rfl)) (show F_c212 2 2 = yc212_2_2 from (eyc212_2_2))
                      have k212 : TUs (ub8 ((w3))) ((u1_1)) ((a3)) (q4, CX) (q4 + 4 + (tc119_0), sc ((wc212_4)) 0 ((yc212_2_1))) := by assumption
                      refine Ew_of (pcₚ := 214) (fun _ => x_iload rfl lc212_4) ?_
                      refine Ew_of (pcₚ := 215) (fun _ => x_iconst rfl) ?_
                      refine Ew_of (pcₚ := 217) (fun _ => x_iload rfl lc212_7) ?_
                      refine w_iadd rfl ?_
                      refine w_iadd rfl ?_
                      have : ITO (TUs (ub8 ((w3))) ((u1_1)) ((a3))) (TUe (ub8 ((w3))) ((u1_1)) ((a3))) (0, []) ((x13_4) + (4 + (tc119_0)), sc ((wc212_4)) 0 ((yc212_2_1))) := by have h := ITO_s j13_x k212; rw [show q4 + 4 + (tc119_0) = (x13_4) + (4 + (tc119_0)) by omega] at h; exact h
                      refine Ew_of (pcₚ := 221) (fun _ => x_istore rfl) ?_
                      refine Ew_of (pcₚ := 224) (fun _ => x_iinc (len := 3) rfl (rk_o (lc212_5) rfl rfl)) ?_
                      refine Ew_of (pcₚ := 13) (fun _ => x_goto rfl rfl) ?_
                      exact ih13 _ (msE hm13 q_16 (q_17 b16)) _ _ _ _ _ _ _ _ ((x13_4 + (4 + tc119_0))) ((x13_5 + 1)) (rk_o (rk_o (lc212_0) rfl rfl) rfl rfl) (rk_o (rk_s) rfl rfl) (rk_s) H O (SD_trans (hD_13) hD_c212 (any_subA (by decide +kernel))) (SD_trans (hN_13) hN_c212 (any_subA (by decide +kernel))) (SF_trans (SF_trans (SF_trans (hS_13) hS_c119 (any_sub (by decide +kernel))) hS_c186 (any_sub (by decide +kernel))) hS_c212 (any_sub (by decide +kernel))) (SA_trans (SA_trans (SA_trans (hA_13) hA_c119 (any_subA (by decide +kernel))) hA_c186 (any_subA (by decide +kernel))) hA_c212 (any_subA (by decide +kernel))) (pmc212_4) (mc212_4) (emc212_4) (yc212_2_1) ((eyc212_2_1)) (yc212_2_2) ((eyc212_2_2)) (wc212_4) (ewc212_4) (show inr ((x13_4 + (4 + tc119_0))) from q_3433 b55 jc119_1 jc212_0 r10) (show inr ((x13_5 + 1)) from q_3388 b16 j13_2 jc212_3 r5) (show (0) ≤ ((x13_5 + 1)) from q_14 j13_2) (show ((x13_5 + 1)) ≤ (0) ∨ ((x13_5 + 1)) ≤ ((y9_0_4)) from q_13 b16) (show 0 ≤ ((x13_4 + (4 + tc119_0))) ∧ ((x13_4 + (4 + tc119_0))) ≤ (y9_0_4) from q_3432 b55 jc119_1 jc212_0) (show 0 ≤ (yc212_2_1) ∧ (yc212_2_1) ≤ (mc212_4) ∧ (mc212_4) ≤ 65536 from jc212_1) (show (yc212_2_1) ≤ (a3) from jc212_2) (show 0 ≤ (y9_0_4) ∧ (y9_0_4) ≤ (n3) from jc212_3) (show (yc212_2_2) = 0 from jc212_4) (show (y9_0_6) = (a3) ∧ (y9_0_4) = (u1_1) from jc212_5) (show ((x13_5 + 1)) ≤ ((x13_4 + (4 + tc119_0))) from q_3431 j13_10 jc119_1) (show ITO (TUs (ub8 ((w3))) ((u1_1)) ((a3))) (TUe (ub8 ((w3))) ((u1_1)) ((a3))) (0, []) (((x13_4 + (4 + tc119_0))), sc ((wc212_4)) 0 ((yc212_2_1))) by assumption) rfl
                    refine Ew_of (pcₚ := 189) (fun _ => x_iconst rfl) ?_
                    refine w_icmpge (t := 212) rfl rfl (show inr ((v24 % 256)) from q_3450 b54) (show inr (2) from q_122) (fun b59 => ?_) (fun b59 => ?_)
                    · have : TUs (ub8 ((w3))) ((u1_1)) ((a3)) (q4, CX) (q4 + 4 + (tc119_0), sc ((w13_4)) 0 ((y13_2_1))) := by first | (rw [← hCX]; exact TUs_n (k := q6) (by omega) (TUh_0 (pl := 0) (by rw [hq6]; exact hTg) (by rcases (show q6 = 255 ∨ q6 ≠ 255 by omega) with z | z; (exact .inl ⟨z, (k186 (by omega)).1, (k186 (by omega)).2⟩); (exact .inr (.inr ⟨by omega, z⟩))) rfl) (by omega) rfl) | (obtain ⟨x, pl0, X, y, w1, w2⟩ := hcy (by omega); rw [← hCX, ← hq4] at y; rw [← hq4] at w1; rw [← hCX] at w2; exact TUs_y (by omega) (TUh_0 (pl := 0) hTg (.inr (.inl ⟨by omega, x⟩)) rfl) (by omega) y w1 rfl w2)
                      exact hc212  _ _ _ _ _ _ _ _  (lc186_0) (lc186_4) (lc186_5) (lc186_7) H O (SD_refl) (SD_refl) (SF_refl) (SA_refl) ((((hS_c186 2 0 rfl).trans (hS_c119 2 0 rfl))).trans (pm13_4)) (m13_4) (em13_4) (y13_2_1) ((((hS_c186 2 1 rfl).trans (hS_c119 2 1 rfl)).trans (ey13_2_1))) (y13_2_2) ((((hS_c186 2 2 rfl).trans (hS_c119 2 2 rfl)).trans (ey13_2_2))) (w13_4) ((funext (hA_c186 4 rfl)).trans ((funext (hA_c119 4 rfl)).trans (ew13_4))) (show 0 ≤ (x13_4) ∧ (x13_4) ≤ (y9_0_4) from j13_4) (show 0 ≤ (y13_2_1) ∧ (y13_2_1) ≤ (m13_4) ∧ (m13_4) ≤ 65536 from j13_5) (show (y13_2_1) ≤ (a3) from j13_6) (show 0 ≤ (y9_0_4) ∧ (y9_0_4) ≤ (n3) from j13_7) (show (y13_2_2) = 0 from j13_8) (show (y9_0_6) = (a3) ∧ (y9_0_4) = (u1_1) from j13_9) (show TUs (ub8 ((w3))) ((u1_1)) ((a3)) (q4, CX) (q4 + 4 + (tc119_0), sc ((w13_4)) 0 ((y13_2_1))) by assumption)
                    · refine Ew_of (pcₚ := 193) (fun _ => x_aload_n rfl lc186_0) ?_
                      refine Ew_of (pcₚ := 195) (fun _ => x_iload rfl lc186_4) ?_
                      refine Ew_of (pcₚ := 197) (fun _ => x_iload rfl lc186_6) ?_
                      refine Ew_of (pcₚ := 199) (fun _ => x_iload rfl lc186_7) ?_
                      have r60 : (-2147483648 : Int) ≤ F_13 0 8 ∧ F_13 0 8 ≤ 2147483647 := rngE (show (-2147483648 : Int) ≤ F_c186 0 8 ∧ F_c186 0 8 ≤ 2147483647 from H.krg 0 8 (ltn len_V210_Row_Row_oz_D6cls rfl)) (show F_c186 0 8 = F_13 0 8 from ((hS_c186 0 8 rfl).trans (hS_c119 0 8 rfl)))
                      refine v_inv H (o := 0) rfl rfl rfl rfl rfl rfl (by rfl) (C211 (D := puc 537396736 D_13) (N := puc 537396736 N_13) (HW_subc H oz_D6cls_38 oz_D6cls_44) (STC_out HT HE O) ((((hS_c186 0 3 rfl).trans (hS_c119 0 3 rfl))).trans (pf_13_0_3)) ((((hS_c186 0 5 rfl).trans (hS_c119 0 5 rfl))).trans (pf_13_0_5)) ((((hS_c186 2 0 rfl).trans (hS_c119 2 0 rfl))).trans (pm13_4)) (n3) ((congrArg (fun q : Nat => (q : Int)) (mN_13 3 rfl)).trans (en3)) (m13_4) (em13_4) (y9_0_6) (((((hS_c186 0 6 rfl).trans (hS_c119 0 6 rfl)).trans (hS_13 0 6 rfl)).trans ((eF9 0 6).trans ey9_0_6))) (F_13 0 8) (((hS_c186 0 8 rfl).trans (hS_c119 0 8 rfl))) (y13_2_1) ((((hS_c186 2 1 rfl).trans (hS_c119 2 1 rfl)).trans (ey13_2_1))) (y13_2_2) ((((hS_c186 2 2 rfl).trans (hS_c119 2 2 rfl)).trans (ey13_2_2))) (w3) ((funext (mA_c186 3 rfl)).trans (ew3)) (w13_4) ((funext (hA_c186 4 rfl)).trans ((funext (hA_c119 4 rfl)).trans (ew13_4))) (show inr (x13_4) from j13_0) (show inr ((v24 % 256)) from q_3452 b54 b59) (show inr (tc119_0) from jc119_0) (show 0 ≤ (x13_4) ∧ 0 ≤ (tc119_0) ∧ (x13_4) + 4 + (tc119_0) ≤ (n3) ∧ (n3) ≤ 65536 from q_3437 b55 h1 j13_4 j13_7 jc119_1) (show 0 ≤ (y13_2_1) ∧ (y13_2_1) ≤ (m13_4) ∧ (m13_4) ≤ 65536 from j13_5) (show 0 ≤ (y9_0_6) ∧ (y9_0_6) ≤ 65536 ∧ (y13_2_1) ≤ (y9_0_6) from q_3436 h3 j13_6 j13_9) (show (y13_2_2) = 0 from j13_8) (show 0 ≤ ((v24 % 256)) ∧ ((v24 % 256)) ≤ 1 from q_3451 b54 b59) (fun z61 σ61 D61ₚ N61ₚ F61ₚ A61ₚ c61 s61 Hₚ Oₚ hD61 hN61 hS61 hA61 pm61_3 m61_3 em61_3 y61_0_8 ey61_0_8 y61_2_1 ey61_2_1 y61_2_2 ey61_2_2 w61_3 ew61_3 pz61_0 pz61_1 pz61_2 pz61_3 pz61_4 pz61_5 pz61_6 => ⟨rfl, ?_⟩))
                      refine v_backMc (c := c_13) (s := s_13) H oz_D6cls_38 oz_D6cls_44 Hₚ Oₚ hD61 oz_D6cls_39 (fun D61 N61 F61 A61 H Oₚ eD61 eN61 eF61 eA61 => ?_)
                      have O := OUT_trans O Oₚ
                      -- Tags.unpackChunk
                      have cF61 : SF oz_D6clsl_13 F F61 := SF_trans (cF_c186) (SF_gluc (ι := oz_D6clsl_14) oz_D6cls_44 hS61 eF61 (by decide +kernel)) (any_sub (lₚ := [(0, 7), (0, 8), (2, 0), (2, 1), (2, 2)]) (by decide +kernel))
                      have mF61 := SFm_of cF61 oz_D6cls_42
                      have cA61 : SA oz_D6clsl_6 A A61 := SA_trans (cA_c186) (SA_gluc (ι := oz_D6clsl_14) oz_D6cls_44 hA61 eA61 (by decide +kernel)) (any_subA (lₚ := [4]) (by decide +kernel))
                      have mA61 := SAm_of cA61 oz_D6cls_43
                      have cD61 : SD oz_D6clsl_6 D D61 := SD_trans (cD_13) (SD_gluc (ι := oz_D6clsl_14) oz_D6cls_44 hD61 eD61 (by decide +kernel)) (any_subA (lₚ := [4]) (by decide +kernel))
                      have mD61 := SDm_of cD61 oz_D6cls_43
                      have cN61 : SD oz_D6clsl_6 N N61 := SD_trans (cN_13) (SD_gluc (ι := oz_D6clsl_14) oz_D6cls_44 hN61 eN61 (by decide +kernel)) (any_subA (lₚ := [4]) (by decide +kernel))
                      have mN61 := SDm_of cN61 oz_D6cls_43
                      have pf61_0_3 : F61 0 3 = (D61 3 : Int) := ((show F61 0 3 = F_c186 0 3 from (eF61 0 3).trans (hS61 0 3 rfl))).trans (((((hS_c186 0 3 rfl).trans (hS_c119 0 3 rfl))).trans (pf_13_0_3)).trans (congrArg (fun q : Nat => (q : Int)) ((show D61 3 = D_13 3 from (eD61 3).trans (hD61 1 rfl))).symm))
                      have pf61_0_5 : F61 0 5 = (D61 2 : Int) := ((show F61 0 5 = F_c186 0 5 from (eF61 0 5).trans (hS61 0 5 rfl))).trans (((((hS_c186 0 5 rfl).trans (hS_c119 0 5 rfl))).trans (pf_13_0_5)).trans (congrArg (fun q : Nat => (q : Int)) ((show D61 2 = D_13 2 from (eD61 2).trans (hD61 2 rfl))).symm))
                      have pf61_2_0 : F61 2 0 = (D61 4 : Int) := (eF61 2 0).trans (pm61_3.trans (congrArg (fun q : Nat => (q : Int)) (eD61 4).symm))
                      have r62 : (0 : Int) ≤ m61_3 ∧ m61_3 ≤ 1000000 := nleE (H.nle 4 (ltn len_V210_Row_Row_oz_D6cls rfl)) (show (N61 4 : Int) = m61_3 from (congrArg (fun q : Nat => (q : Int)) (eN61 4)).trans em61_3)
                      have r63 : (-2147483648 : Int) ≤ y61_0_8 ∧ y61_0_8 ≤ 2147483647 := rngE (show (-2147483648 : Int) ≤ F61 0 8 ∧ F61 0 8 ≤ 2147483647 from H.krg 0 8 (ltn len_V210_Row_Row_oz_D6cls rfl)) (show F61 0 8 = y61_0_8 from ((eF61 0 8).trans ey61_0_8))
                      have r64 : (-2147483648 : Int) ≤ y61_2_1 ∧ y61_2_1 ≤ 2147483647 := rngE (show (-2147483648 : Int) ≤ F61 2 1 ∧ F61 2 1 ≤ 2147483647 from H.krg 2 1 (ltn len_V210_Row_Row_oz_D6cls rfl)) (show F61 2 1 = y61_2_1 from ((eF61 2 1).trans ey61_2_1))
                      have r65 : (0 : Int) ≤ y61_2_2 ∧ y61_2_2 ≤ 1 := rngE (show (0 : Int) ≤ F61 2 2 ∧ F61 2 2 ≤ 1 from H.krg 2 2 (ltn len_V210_Row_Row_oz_D6cls rfl)) (show F61 2 2 = y61_2_2 from ((eF61 2 2).trans ey61_2_2))
                      have hcy := pz61_5
                      have hcf := pz61_6
                      try rw [show (y9_0_6) = (a3) by omega] at hcy
                      try rw [show (y9_0_6) = (a3) by omega] at hcf
                      refine Ew_of (pcₚ := 204) (fun _ => x_istore rfl) ?_
                      refine Ew_of (pcₚ := 206) (fun _ => x_iload rfl rk_s) ?_
                      refine w_ifeq (t := 212) rfl rfl (show inr (z61) from pz61_0) (fun b66 => ?_) (fun b66 => ?_)
                      · have : TUs (ub8 ((w3))) ((u1_1)) ((a3)) (q4, CX) (q4 + 4 + (tc119_0), sc ((w61_3)) 0 ((y61_2_1))) := by first | (rw [← hCX]; exact TUs_n (k := q6) (by omega) (TUh_0 (pl := 0) (by rw [hq6]; exact hTg) (by rcases (show q6 = 255 ∨ q6 ≠ 255 by omega) with z | z; (exact .inl ⟨z, (k186 (by omega)).1, (k186 (by omega)).2⟩); (exact .inr (.inr ⟨by omega, z⟩))) rfl) (by omega) rfl) | (obtain ⟨x, pl0, X, y, w1, w2⟩ := hcy (by omega); rw [← hCX, ← hq4] at y; rw [← hq4] at w1; rw [← hCX] at w2; exact TUs_y (by omega) (TUh_0 (pl := 0) hTg (.inr (.inl ⟨by omega, x⟩)) rfl) (by omega) y w1 rfl w2)
                        exact hc212  _ _ _ _ _ _ _ _  ((rk_o (lc186_0) rfl rfl).trans (congrArg (fun q : Nat => some (Value.ref q)) (((show D61 0 = D_13 0 from (eD61 0).trans (hD61 0 rfl)))).symm)) (rk_o (lc186_4) rfl rfl) (rk_o (lc186_5) rfl rfl) (rk_o (lc186_7) rfl rfl) H O (SD_trans (SD_refl) (SD_gluc (ι := oz_D6clsl_14) oz_D6cls_44 hD61 eD61 (by decide +kernel)) (any_subA (lₚ := [4]) (by decide +kernel))) (SD_trans (SD_refl) (SD_gluc (ι := oz_D6clsl_14) oz_D6cls_44 hN61 eN61 (by decide +kernel)) (any_subA (lₚ := [4]) (by decide +kernel))) (SF_trans (SF_refl) (SF_gluc (ι := oz_D6clsl_14) oz_D6cls_44 hS61 eF61 (by decide +kernel)) (any_sub (lₚ := [(0, 7), (0, 8), (2, 0), (2, 1), (2, 2)]) (by decide +kernel))) (SA_trans (SA_refl) (SA_gluc (ι := oz_D6clsl_14) oz_D6cls_44 hA61 eA61 (by decide +kernel)) (any_subA (lₚ := [4]) (by decide +kernel))) (pf61_2_0) (m61_3) ((congrArg (fun q : Nat => (q : Int)) (eN61 4)).trans em61_3) (y61_2_1) (((eF61 2 1).trans ey61_2_1)) (y61_2_2) (((eF61 2 2).trans ey61_2_2)) (w61_3) ((eA61 4).trans ew61_3) (show 0 ≤ (x13_4) ∧ (x13_4) ≤ (y9_0_4) from j13_4) (show 0 ≤ (y61_2_1) ∧ (y61_2_1) ≤ (m61_3) ∧ (m61_3) ≤ 65536 from pz61_2) (show (y61_2_1) ≤ (a3) from q_3398 j13_9 pz61_3) (show 0 ≤ (y9_0_4) ∧ (y9_0_4) ≤ (n3) from j13_7) (show (y61_2_2) = 0 from pz61_4) (show (y9_0_6) = (a3) ∧ (y9_0_4) = (u1_1) from j13_9) (show TUs (ub8 ((w3))) ((u1_1)) ((a3)) (q4, CX) (q4 + 4 + (tc119_0), sc ((w61_3)) 0 ((y61_2_1))) by assumption)
                      · refine Ew_of (pcₚ := 211) (fun _ => x_iload rfl rk_s) ?_
                        have : IMP (((z61) : Int) ≠ 0) (IT (TUs (ub8 ((w3))) ((u1_1)) ((a3))) (TUe (ub8 ((w3))) ((u1_1)) ((a3))) (0, []) (((z61) : Int), (y61_0_8), [])) := fun z => by rcases hcf z with ⟨x, y, w⟩ | ⟨x, f0, pl0, X, y, w⟩; (exact ITO_e j13_x (TUe_h (by omega) (TUh_10 hTg (by omega) x y (by omega)) z)); (rw [← hCX, ← hq4] at y; rcases w with ⟨w1, w2, w3⟩ | ⟨w1, w2, w3, w4⟩); (rw [w2, w3]; exact ITO_e j13_x (TUe_b (by omega) (TUh_0 (pl := 0) hTg (.inr (.inl ⟨by omega, x⟩)) rfl) (by omega) y w1)); (rw [← hq4] at w2; rw [w1] at y; exact ITO_e j13_x (TUe_c (by omega) (TUh_0 (pl := 0) hTg (.inr (.inl ⟨by omega, x⟩)) rfl) (by omega) y w2 w3 (by omega)))
                        have : IMP (((z61) : Int) = 0) (IT (TUs (ub8 ((w3))) ((u1_1)) ((a3))) (TUe (ub8 ((w3))) ((u1_1)) ((a3))) (0, []) (0, (y61_0_8), sc ((w61_3)) 0 ((y61_2_1)))) := fun z => absurd z (by omega)
                        exact w_ireturn rfl (k (z61) _ _ _ _ _ _ _ H O (cD61) (cN61) (cF61) (cA61) (pf61_2_0) (m61_3) ((congrArg (fun q : Nat => (q : Int)) (eN61 4)).trans em61_3) (y61_0_8) (((eF61 0 8).trans ey61_0_8)) (y61_2_1) (((eF61 2 1).trans ey61_2_1)) (y61_2_2) (((eF61 2 2).trans ey61_2_2)) (w61_3) ((eA61 4).trans ew61_3) (show inr (z61) from pz61_0) (show 0 ≤ (z61) ∧ (z61) ≤ 12 from pz61_1) (show 0 ≤ (y61_2_1) ∧ (y61_2_1) ≤ (m61_3) ∧ (m61_3) ≤ 65536 from pz61_2) (show (y61_2_2) = 0 from pz61_4) (show IMP ((z61) ≠ 0) (IT (TUs (ub8 ((w3))) ((u1_1)) (a3)) (TUe (ub8 ((w3))) ((u1_1)) (a3)) (0, []) ((z61), (y61_0_8), [])) by assumption) (show IMP ((z61) = 0) (IT (TUs (ub8 ((w3))) ((u1_1)) (a3)) (TUe (ub8 ((w3))) ((u1_1)) (a3)) (0, []) (0, (y61_0_8), sc ((w61_3)) 0 ((y61_2_1)))) by assumption) (show (z61) ≠ 0 ∨ (y61_0_8) = (u1_1) from q_3250 b66))
                  refine Ew_of (pcₚ := 151) (fun _ => x_sipush (z := 255) rfl (by decide)) ?_
                  refine w_icmpne (t := 186) rfl rfl (show inr ((v24 % 256)) from q_3450 b54) (show inr (255) from q_297) (fun b67 => ?_) (fun b67 => ?_)
                  · have : IMP (((v24 % 256)) = 255) ((tc119_0) = 6 ∧ MKQ (ub8 ((w3))) (q4) ((u1_1))) := by first | exact fun z => absurd z (by omega) | exact fun z => ⟨by omega, by rcases hmk with ⟨x, y⟩ | ⟨x, y⟩; (exact y); (omega)⟩
                    exact hc186  _ _ _ _  (rk_o (lc119_0) rfl rfl) (rk_o (lc119_4) rfl rfl) (rk_o (lc119_5) rfl rfl) (rk_o (lc119_6) rfl rfl) (rk_s) H O (SF_refl) (SA_refl)     (show IMP (((v24 % 256)) = 255) ((tc119_0) = 6 ∧ MKQ (ub8 ((w3))) (q4) ((u1_1))) by assumption)
                  · refine Ew_of (pcₚ := 156) (fun _ => x_iload rfl rk_s) ?_
                    refine Ew_of (pcₚ := 158) (fun _ => x_bipush (z := 6) rfl (by decide)) ?_
                    refine w_icmpne (t := 177) rfl rfl (show inr (tc119_0) from jc119_0) (show inr (6) from q_756) (fun b68 => ?_) (fun b68 => ?_)
                    · refine Ew_of (pcₚ := 178) (fun _ => x_aload_n rfl (rk_o (lc119_0) rfl rfl)) ?_
                      refine Ew_of (pcₚ := 180) (fun _ => x_bipush (z := 8) rfl (by decide)) ?_
                      refine Ew_of (pcₚ := 182) (fun _ => x_iload rfl (rk_o (lc119_4) rfl rfl)) ?_
                      have r69 : (-2147483648 : Int) ≤ F_13 0 8 ∧ F_13 0 8 ≤ 2147483647 := rngE (show (-2147483648 : Int) ≤ F_c119 0 8 ∧ F_c119 0 8 ≤ 2147483647 from H.krg 0 8 (ltn len_V210_Row_Row_oz_D6cls rfl)) (show F_c119 0 8 = F_13 0 8 from (hS_c119 0 8 rfl))
                      refine v_inv H (o := 0) rfl rfl rfl rfl rfl rfl (by rfl) (C203 (D := puc 0 D_13) (N := puc 0 N_13) (HW_subc H oz_D6cls_37 oz_D6cls_29) (F_13 0 8) ((hS_c119 0 8 rfl)) (show inr (8) from q_141) (show inr (x13_4) from j13_0) (fun z70 σ70 F70ₚ A70ₚ Hₚ Oₚ hS70 hA70 y70_0_8 ey70_0_8 pz70_0 pz70_1 pz70_2 => ⟨rfl, ?_⟩))
                      refine v_backc (c := c_13) (s := s_13) H oz_D6cls_37 oz_D6cls_29 Hₚ Oₚ (fun F70 A70 H Oₚ eF70 eA70 => ?_)
                      have O := OUT_trans O Oₚ
                      -- Tags.fail
                      have cF70 : SF oz_D6clsl_13 F F70 := SF_trans (cF_c119) (SF_gluc (ι := oz_D6clsl_8) oz_D6cls_29 hS70 eF70 (by decide +kernel)) (any_sub (lₚ := [(0, 8)]) (by decide +kernel))
                      have mF70 := SFm_of cF70 oz_D6cls_42
                      have cA70 : SA oz_D6clsl_6 A A70 := SA_trans (cA_c119) (SA_gluc (ι := oz_D6clsl_8) oz_D6cls_29 hA70 eA70 (by decide +kernel)) (any_subA (lₚ := []) (by decide +kernel))
                      have mA70 := SAm_of cA70 oz_D6cls_43
                      have r71 : (-2147483648 : Int) ≤ y70_0_8 ∧ y70_0_8 ≤ 2147483647 := rngE (show (-2147483648 : Int) ≤ F70 0 8 ∧ F70 0 8 ≤ 2147483647 from H.krg 0 8 (ltn len_V210_Row_Row_oz_D6cls rfl)) (show F70 0 8 = y70_0_8 from ((eF70 0 8).trans ey70_0_8))
                      have : IMP (((z70) : Int) ≠ 0) (IT (TUs (ub8 ((w3))) ((u1_1)) ((a3))) (TUe (ub8 ((w3))) ((u1_1)) ((a3))) (0, []) (((z70) : Int), (y70_0_8), [])) := fun z => ITO_e j13_x (TUe_h (by omega) (TUh_m (z := (tc119_0)) ⟨hkd, by omega, by omega, by omega, hz7, by omega⟩ (by omega) (fun q => by first | (have := q.1; omega) | (rcases hmk with ⟨x, y⟩ | ⟨x, y⟩; (omega); (exact y q.2))) (by omega) (by omega)) z)
                      have : IMP (((z70) : Int) = 0) (IT (TUs (ub8 ((w3))) ((u1_1)) ((a3))) (TUe (ub8 ((w3))) ((u1_1)) ((a3))) (0, []) (0, (y70_0_8), sc ((w13_4)) 0 ((y13_2_1)))) := fun z => absurd z (by omega)
                      exact w_ireturn rfl (k (z70) _ _ _ _ _ _ _ H O (cD_13) (cN_13) (cF70) (cA70) (((((show F70 2 0 = F_c119 2 0 from (eF70 2 0))).trans (hS_c119 2 0 rfl))).trans (pm13_4)) (m13_4) (em13_4) (y70_0_8) (((eF70 0 8).trans ey70_0_8)) (y13_2_1) (((((show F70 2 1 = F_c119 2 1 from (eF70 2 1))).trans (hS_c119 2 1 rfl)).trans (ey13_2_1))) (y13_2_2) (((((show F70 2 2 = F_c119 2 2 from (eF70 2 2))).trans (hS_c119 2 2 rfl)).trans (ey13_2_2))) (w13_4) (((show A70 4 = A_c119 4 from (eA70 4))).trans ((funext (hA_c119 4 rfl)).trans (ew13_4))) (show inr (z70) from pz70_0) (show 0 ≤ (z70) ∧ (z70) ≤ 12 from q_3439 pz70_1) (show 0 ≤ (y13_2_1) ∧ (y13_2_1) ≤ (m13_4) ∧ (m13_4) ≤ 65536 from j13_5) (show (y13_2_2) = 0 from j13_8) (show IMP ((z70) ≠ 0) (IT (TUs (ub8 ((w3))) ((u1_1)) (a3)) (TUe (ub8 ((w3))) ((u1_1)) (a3)) (0, []) ((z70), (y70_0_8), [])) by assumption) (show IMP ((z70) = 0) (IT (TUs (ub8 ((w3))) ((u1_1)) (a3)) (TUe (ub8 ((w3))) ((u1_1)) (a3)) (0, []) (0, (y70_0_8), sc ((w13_4)) 0 ((y13_2_1)))) by assumption) (show (z70) ≠ 0 ∨ (y70_0_8) = (u1_1) from q_3438 pz70_1))
                    · refine Ew_of (pcₚ := 162) (fun _ => x_aload_n rfl (rk_o (lc119_0) rfl rfl)) ?_
                      refine v_g H (o := 0) (v := .ref (D_13 3)) rfl rfl rfl rfl rfl (vrf (((hS_c119 0 3 rfl)).trans (pf_13_0_3))) ?_
                      refine Ew_of (pcₚ := 167) (fun _ => x_iload rfl (rk_o (lc119_4) rfl rfl)) ?_
                      refine Ew_of (pcₚ := 168) (fun _ => x_aload_n rfl (rk_o (lc119_0) rfl rfl)) ?_
                      refine v_g H (o := 0) (v := I (y9_0_4)) rfl rfl rfl rfl rfl (congrArg (fun z : Int => I z) ((((hS_c119 0 4 rfl).trans (hS_13 0 4 rfl)).trans ((eF9 0 4).trans ey9_0_4)) : F_c119 0 4 = y9_0_4)) ?_
                      refine w_stat24 rfl rfl (by rfl) (C192_Br (D := puc 3 D_13) (N := puc 3 N_13) (HW_subc H oz_D6cls_40 oz_D6cls_30) (STC_out HT HE O) (n3) ((congrArg (fun q : Nat => (q : Int)) (mN_13 3 rfl)).trans (en3)) (w3) ((funext (mA_c119 3 rfl)).trans (ew3)) (show inr (x13_4) from j13_0) (show inr (y9_0_4) from q_512 j13_7 r10) (show 0 ≤ (x13_4) ∧ 0 ≤ (y9_0_4) ∧ (y9_0_4) ≤ (n3) ∧ (n3) ≤ 65536 ∧ (x13_4) ≤ 200000 from q_3440 b20 h1 j13_4 j13_7 r5) (fun z72 σ72 F72ₚ A72ₚ Hₚ Oₚ hS72 hA72 pz72_0 pz72_1 => ⟨rretB rfl pz72_0, ?_⟩))
                      refine v_backc (c := c_13) (s := s_13) H oz_D6cls_40 oz_D6cls_30 Hₚ Oₚ (fun F72 A72 H Oₚ eF72 eA72 => ?_)
                      have O := OUT_trans O Oₚ
                      -- Tags.isMark
                      have cF72 : SF oz_D6clsl_13 F F72 := SF_trans (cF_c119) (SF_gluc (ι := oz_D6clsl_3) oz_D6cls_30 hS72 eF72 (by decide +kernel)) (any_sub (lₚ := []) (by decide +kernel))
                      have mF72 := SFm_of cF72 oz_D6cls_42
                      have cA72 : SA oz_D6clsl_6 A A72 := SA_trans (cA_c119) (SA_gluc (ι := oz_D6clsl_3) oz_D6cls_30 hA72 eA72 (by decide +kernel)) (any_subA (lₚ := []) (by decide +kernel))
                      have mA72 := SAm_of cA72 oz_D6cls_43
                      have hmk := ISM_K pz72_1 (by show (ub8 ((w3))) ((x13_4)) = 255; rw [← hq4, hkd]; omega) (by rw [← nvl_ub, ← hq4, ← hz7]; omega)
                      rw [← hq4] at hmk
                      try rw [show (y9_0_4) = (u1_1) by omega] at hmk
                      refine w_ifne (t := 186) rfl rfl (show inr (z72) from q_138 pz72_0) (fun b73 => ?_) (fun b73 => ?_)
                      · have : IMP (((v24 % 256)) = 255) ((tc119_0) = 6 ∧ MKQ (ub8 ((w3))) (q4) ((u1_1))) := by first | exact fun z => absurd z (by omega) | exact fun z => ⟨by omega, by rcases hmk with ⟨x, y⟩ | ⟨x, y⟩; (exact y); (omega)⟩
                        exact hc186  _ _ _ _  (rk_o (lc119_0) rfl rfl) (rk_o (lc119_4) rfl rfl) (rk_o (lc119_5) rfl rfl) (rk_o (lc119_6) rfl rfl) (rk_s) H O (SF_trans (SF_refl) (SF_gluc (ι := oz_D6clsl_3) oz_D6cls_30 hS72 eF72 (by decide +kernel)) (any_sub (lₚ := []) (by decide +kernel))) (SA_trans (SA_refl) (SA_gluc (ι := oz_D6clsl_3) oz_D6cls_30 hA72 eA72 (by decide +kernel)) (any_subA (lₚ := []) (by decide +kernel)))     (show IMP (((v24 % 256)) = 255) ((tc119_0) = 6 ∧ MKQ (ub8 ((w3))) (q4) ((u1_1))) by assumption)
                      · refine Ew_of (pcₚ := 178) (fun _ => x_aload_n rfl (rk_o (lc119_0) rfl rfl)) ?_
                        refine Ew_of (pcₚ := 180) (fun _ => x_bipush (z := 8) rfl (by decide)) ?_
                        refine Ew_of (pcₚ := 182) (fun _ => x_iload rfl (rk_o (lc119_4) rfl rfl)) ?_
                        have r74 : (-2147483648 : Int) ≤ F_13 0 8 ∧ F_13 0 8 ≤ 2147483647 := rngE (show (-2147483648 : Int) ≤ F72 0 8 ∧ F72 0 8 ≤ 2147483647 from H.krg 0 8 (ltn len_V210_Row_Row_oz_D6cls rfl)) (show F72 0 8 = F_13 0 8 from (((show F72 0 8 = F_c119 0 8 from (eF72 0 8))).trans (hS_c119 0 8 rfl)))
                        refine v_inv H (o := 0) rfl rfl rfl rfl rfl rfl (by rfl) (C203 (D := puc 0 D_13) (N := puc 0 N_13) (HW_subc H oz_D6cls_37 oz_D6cls_29) (F_13 0 8) ((((show F72 0 8 = F_c119 0 8 from (eF72 0 8))).trans (hS_c119 0 8 rfl))) (show inr (8) from q_141) (show inr (x13_4) from j13_0) (fun z75 σ75 F75ₚ A75ₚ Hₚ Oₚ hS75 hA75 y75_0_8 ey75_0_8 pz75_0 pz75_1 pz75_2 => ⟨rfl, ?_⟩))
                        refine v_backc (c := c_13) (s := s_13) H oz_D6cls_37 oz_D6cls_29 Hₚ Oₚ (fun F75 A75 H Oₚ eF75 eA75 => ?_)
                        have O := OUT_trans O Oₚ
                        -- Tags.fail
                        have cF75 : SF oz_D6clsl_13 F F75 := SF_trans (cF72) (SF_gluc (ι := oz_D6clsl_8) oz_D6cls_29 hS75 eF75 (by decide +kernel)) (any_sub (lₚ := [(0, 8)]) (by decide +kernel))
                        have mF75 := SFm_of cF75 oz_D6cls_42
                        have cA75 : SA oz_D6clsl_6 A A75 := SA_trans (cA72) (SA_gluc (ι := oz_D6clsl_8) oz_D6cls_29 hA75 eA75 (by decide +kernel)) (any_subA (lₚ := []) (by decide +kernel))
                        have mA75 := SAm_of cA75 oz_D6cls_43
                        have r76 : (-2147483648 : Int) ≤ y75_0_8 ∧ y75_0_8 ≤ 2147483647 := rngE (show (-2147483648 : Int) ≤ F75 0 8 ∧ F75 0 8 ≤ 2147483647 from H.krg 0 8 (ltn len_V210_Row_Row_oz_D6cls rfl)) (show F75 0 8 = y75_0_8 from ((eF75 0 8).trans ey75_0_8))
                        have : IMP (((z75) : Int) ≠ 0) (IT (TUs (ub8 ((w3))) ((u1_1)) ((a3))) (TUe (ub8 ((w3))) ((u1_1)) ((a3))) (0, []) (((z75) : Int), (y75_0_8), [])) := fun z => ITO_e j13_x (TUe_h (by omega) (TUh_m (z := (tc119_0)) ⟨hkd, by omega, by omega, by omega, hz7, by omega⟩ (by omega) (fun q => by first | (have := q.1; omega) | (rcases hmk with ⟨x, y⟩ | ⟨x, y⟩; (omega); (exact y q.2))) (by omega) (by omega)) z)
                        have : IMP (((z75) : Int) = 0) (IT (TUs (ub8 ((w3))) ((u1_1)) ((a3))) (TUe (ub8 ((w3))) ((u1_1)) ((a3))) (0, []) (0, (y75_0_8), sc ((w13_4)) 0 ((y13_2_1)))) := fun z => absurd z (by omega)
                        exact w_ireturn rfl (k (z75) _ _ _ _ _ _ _ H O (cD_13) (cN_13) (cF75) (cA75) ((((((show F75 2 0 = F72 2 0 from (eF75 2 0))).trans ((show F72 2 0 = F_c119 2 0 from (eF72 2 0)))).trans (hS_c119 2 0 rfl))).trans (pm13_4)) (m13_4) (em13_4) (y75_0_8) (((eF75 0 8).trans ey75_0_8)) (y13_2_1) ((((((show F75 2 1 = F72 2 1 from (eF75 2 1))).trans ((show F72 2 1 = F_c119 2 1 from (eF72 2 1)))).trans (hS_c119 2 1 rfl)).trans (ey13_2_1))) (y13_2_2) ((((((show F75 2 2 = F72 2 2 from (eF75 2 2))).trans ((show F72 2 2 = F_c119 2 2 from (eF72 2 2)))).trans (hS_c119 2 2 rfl)).trans (ey13_2_2))) (w13_4) (((show A75 4 = A72 4 from (eA75 4))).trans (((show A72 4 = A_c119 4 from (eA72 4))).trans ((funext (hA_c119 4 rfl)).trans (ew13_4)))) (show inr (z75) from pz75_0) (show 0 ≤ (z75) ∧ (z75) ≤ 12 from q_3439 pz75_1) (show 0 ≤ (y13_2_1) ∧ (y13_2_1) ≤ (m13_4) ∧ (m13_4) ≤ 65536 from j13_5) (show (y13_2_2) = 0 from j13_8) (show IMP ((z75) ≠ 0) (IT (TUs (ub8 ((w3))) ((u1_1)) (a3)) (TUe (ub8 ((w3))) ((u1_1)) (a3)) (0, []) ((z75), (y75_0_8), [])) by assumption) (show IMP ((z75) = 0) (IT (TUs (ub8 ((w3))) ((u1_1)) (a3)) (TUe (ub8 ((w3))) ((u1_1)) (a3)) (0, []) (0, (y75_0_8), sc ((w13_4)) 0 ((y13_2_1)))) by assumption) (show (z75) ≠ 0 ∨ (y75_0_8) = (u1_1) from q_3438 pz75_1))
                · have hz7b : (y9_0_4) < (x13_4) + 4 ∨ (tc119_0) = nvl (ub8 ((w3))) (q4 + 1) 3 := q_3441 jc119_2
                  refine Ew_of (pcₚ := 136) (fun _ => x_aload_n rfl (rk_o (lc119_0) rfl rfl)) ?_
                  refine Ew_of (pcₚ := 138) (fun _ => x_bipush (z := 7) rfl (by decide)) ?_
                  refine Ew_of (pcₚ := 139) (fun _ => x_aload_n rfl (rk_o (lc119_0) rfl rfl)) ?_
                  refine v_g H (o := 0) (v := I (y9_0_4)) rfl rfl rfl rfl rfl (congrArg (fun z : Int => I z) ((((hS_c119 0 4 rfl).trans (hS_13 0 4 rfl)).trans ((eF9 0 4).trans ey9_0_4)) : F_c119 0 4 = y9_0_4)) ?_
                  have r77 : (-2147483648 : Int) ≤ F_13 0 8 ∧ F_13 0 8 ≤ 2147483647 := rngE (show (-2147483648 : Int) ≤ F_c119 0 8 ∧ F_c119 0 8 ≤ 2147483647 from H.krg 0 8 (ltn len_V210_Row_Row_oz_D6cls rfl)) (show F_c119 0 8 = F_13 0 8 from (hS_c119 0 8 rfl))
                  refine v_inv H (o := 0) rfl rfl rfl rfl rfl rfl (by rfl) (C203 (D := puc 0 D_13) (N := puc 0 N_13) (HW_subc H oz_D6cls_37 oz_D6cls_29) (F_13 0 8) ((hS_c119 0 8 rfl)) (show inr (7) from q_597) (show inr (y9_0_4) from q_512 j13_7 r10) (fun z78 σ78 F78ₚ A78ₚ Hₚ Oₚ hS78 hA78 y78_0_8 ey78_0_8 pz78_0 pz78_1 pz78_2 => ⟨rfl, ?_⟩))
                  refine v_backc (c := c_13) (s := s_13) H oz_D6cls_37 oz_D6cls_29 Hₚ Oₚ (fun F78 A78 H Oₚ eF78 eA78 => ?_)
                  have O := OUT_trans O Oₚ
                  -- Tags.fail
                  have cF78 : SF oz_D6clsl_13 F F78 := SF_trans (cF_c119) (SF_gluc (ι := oz_D6clsl_8) oz_D6cls_29 hS78 eF78 (by decide +kernel)) (any_sub (lₚ := [(0, 8)]) (by decide +kernel))
                  have mF78 := SFm_of cF78 oz_D6cls_42
                  have cA78 : SA oz_D6clsl_6 A A78 := SA_trans (cA_c119) (SA_gluc (ι := oz_D6clsl_8) oz_D6cls_29 hA78 eA78 (by decide +kernel)) (any_subA (lₚ := []) (by decide +kernel))
                  have mA78 := SAm_of cA78 oz_D6cls_43
                  have r79 : (-2147483648 : Int) ≤ y78_0_8 ∧ y78_0_8 ≤ 2147483647 := rngE (show (-2147483648 : Int) ≤ F78 0 8 ∧ F78 0 8 ≤ 2147483647 from H.krg 0 8 (ltn len_V210_Row_Row_oz_D6cls rfl)) (show F78 0 8 = y78_0_8 from ((eF78 0 8).trans ey78_0_8))
                  have : IMP (((z78) : Int) ≠ 0) (IT (TUs (ub8 ((w3))) ((u1_1)) ((a3))) (TUe (ub8 ((w3))) ((u1_1)) ((a3))) (0, []) (((z78) : Int), (y78_0_8), [])) := fun z => ITO_e j13_x ((Decidable.em ((y9_0_4) < (x13_4) + 4)).elim (fun w => TUe_h (z := 0) (by omega) (TUh_7 hkd (by omega) (by omega) (by omega) (by omega) (by omega)) z) (fun w => TUe_h (by omega) (TUh_z hkd (by omega) (by omega) (by omega) (show (tc119_0) = nvl (ub8 ((w3))) (q4 + 1) 3 by omega) (by omega) (by omega) (by omega)) z))
                  have : IMP (((z78) : Int) = 0) (IT (TUs (ub8 ((w3))) ((u1_1)) ((a3))) (TUe (ub8 ((w3))) ((u1_1)) ((a3))) (0, []) (0, (y78_0_8), sc ((w13_4)) 0 ((y13_2_1)))) := fun z => absurd z (by omega)
                  exact w_ireturn rfl (k (z78) _ _ _ _ _ _ _ H O (cD_13) (cN_13) (cF78) (cA78) (((((show F78 2 0 = F_c119 2 0 from (eF78 2 0))).trans (hS_c119 2 0 rfl))).trans (pm13_4)) (m13_4) (em13_4) (y78_0_8) (((eF78 0 8).trans ey78_0_8)) (y13_2_1) (((((show F78 2 1 = F_c119 2 1 from (eF78 2 1))).trans (hS_c119 2 1 rfl)).trans (ey13_2_1))) (y13_2_2) (((((show F78 2 2 = F_c119 2 2 from (eF78 2 2))).trans (hS_c119 2 2 rfl)).trans (ey13_2_2))) (w13_4) (((show A78 4 = A_c119 4 from (eA78 4))).trans ((funext (hA_c119 4 rfl)).trans (ew13_4))) (show inr (z78) from pz78_0) (show 0 ≤ (z78) ∧ (z78) ≤ 12 from q_3443 pz78_1) (show 0 ≤ (y13_2_1) ∧ (y13_2_1) ≤ (m13_4) ∧ (m13_4) ≤ 65536 from j13_5) (show (y13_2_2) = 0 from j13_8) (show IMP ((z78) ≠ 0) (IT (TUs (ub8 ((w3))) ((u1_1)) (a3)) (TUe (ub8 ((w3))) ((u1_1)) (a3)) (0, []) ((z78), (y78_0_8), [])) by assumption) (show IMP ((z78) = 0) (IT (TUs (ub8 ((w3))) ((u1_1)) (a3)) (TUe (ub8 ((w3))) ((u1_1)) (a3)) (0, []) (0, (y78_0_8), sc ((w13_4)) 0 ((y13_2_1)))) by assumption) (show (z78) ≠ 0 ∨ (y78_0_8) = (u1_1) from q_3442 pz78_1))
              refine Ew_of (pcₚ := 89) (fun _ => x_aload_n rfl (rk_o (l13_0) rfl rfl)) ?_
              refine v_g H (o := 0) (v := I (y9_0_4)) rfl rfl rfl rfl rfl (congrArg (fun z : Int => I z) (((hS_13 0 4 rfl).trans ((eF9 0 4).trans ey9_0_4)) : F_13 0 4 = y9_0_4)) ?_
              refine Ew_of (pcₚ := 94) (fun _ => x_iload rfl (rk_o (l13_4) rfl rfl)) ?_
              refine w_isub rfl ?_
              refine Ew_of (pcₚ := 96) (fun _ => x_iconst rfl) ?_
              refine w_icmpge (t := 106) rfl rfl (show inr ((y9_0_4 - x13_4)) from q_3382 b20 j13_4 r10) (show inr (4) from q_216) (fun b80 => ?_) (fun b80 => ?_)
              · refine Ew_of (pcₚ := 107) (fun _ => x_aload_n rfl (rk_o (l13_0) rfl rfl)) ?_
                refine v_g H (o := 0) (v := .ref (D_13 3)) rfl rfl rfl rfl rfl (vrf (pf_13_0_3)) ?_
                refine Ew_of (pcₚ := 112) (fun _ => x_iload rfl (rk_o (l13_4) rfl rfl)) ?_
                refine Ew_of (pcₚ := 113) (fun _ => x_iconst rfl) ?_
                refine w_iadd rfl ?_
                refine Ew_of (pcₚ := 115) (fun _ => x_iconst rfl) ?_
                refine w_stat25 rfl rfl (by rfl) (C42_Br (D := puc 3 D_13) (N := puc 3 N_13) (HW_subc H oz_D6cls_41 oz_D6cls_30) (n3) ((congrArg (fun q : Nat => (q : Int)) (mN_13 3 rfl)).trans (en3)) (w3) ((funext (mA_13 3 rfl)).trans (ew3)) (show inr ((x13_4 + 1)) from q_3445 b80 j13_4 j13_7 r5) (show inr (3) from q_246) (show (3) ≤ 0 ∨ 0 ≤ ((x13_4 + 1)) ∧ ((x13_4 + 1)) + (3) ≤ (n3) from q_3444 b80 j13_4 j13_7) (show 0 ≤ (3) ∧ (3) ≤ 8 from q_2174) (fun z81 σ81 F81ₚ A81ₚ Hₚ Oₚ hS81 hA81 pz81_0 pz81_1 pz81_2 => ⟨rfl, ?_⟩))
                refine v_backc (c := c_13) (s := s_13) H oz_D6cls_41 oz_D6cls_30 Hₚ Oₚ (fun F81 A81 H Oₚ eF81 eA81 => ?_)
                have O := OUT_trans O Oₚ
                -- PackHouse.number
                have cF81 : SF oz_D6clsl_13 F F81 := SF_trans (cF_13) (SF_gluc (ι := oz_D6clsl_3) oz_D6cls_30 hS81 eF81 (by decide +kernel)) (any_sub (lₚ := []) (by decide +kernel))
                have mF81 := SFm_of cF81 oz_D6cls_42
                have cA81 : SA oz_D6clsl_6 A A81 := SA_trans (cA_13) (SA_gluc (ι := oz_D6clsl_3) oz_D6cls_30 hA81 eA81 (by decide +kernel)) (any_subA (lₚ := []) (by decide +kernel))
                have mA81 := SAm_of cA81 oz_D6cls_43
                have hb3 := nb3 pz81_1
                have hn3 : (z81) = nvl (ub8 ((w3))) (q4 + 1) 3 := by rw [nvl_ub, hq4]; exact nmb_nn pz81_2 (by omega) pz81_0
                refine w_l2i rfl ?_
                exact hc119 (z81) _ _ _ _  (rk_o (l13_0) rfl rfl) (rk_o (l13_4) rfl rfl) (rk_o (l13_5) rfl rfl) (rk_s) H O (SF_trans (SF_refl) (SF_gluc (ι := oz_D6clsl_3) oz_D6cls_30 hS81 eF81 (by decide +kernel)) (any_sub (lₚ := []) (by decide +kernel))) (SA_trans (SA_refl) (SA_gluc (ι := oz_D6clsl_3) oz_D6cls_30 hA81 eA81 (by decide +kernel)) (any_subA (lₚ := []) (by decide +kernel)))     (show inr (z81) by omega) (show 0 ≤ (z81) ∧ (z81) ≤ 16777215 by omega) (show (y9_0_4) < (x13_4) + 4 ∧ (z81) = (y9_0_4) ∨ (x13_4) + 4 ≤ (y9_0_4) ∧ (z81) = nvl (ub8 ((w3))) (q4 + 1) 3 from q_3446 b80 hn3)
              · refine Ew_of (pcₚ := 100) (fun _ => x_aload_n rfl (rk_o (l13_0) rfl rfl)) ?_
                refine v_g H (o := 0) (v := I (y9_0_4)) rfl rfl rfl rfl rfl (congrArg (fun z : Int => I z) (((hS_13 0 4 rfl).trans ((eF9 0 4).trans ey9_0_4)) : F_13 0 4 = y9_0_4)) ?_
                refine Ew_of (pcₚ := 119) (fun _ => x_goto rfl rfl) ?_
                exact hc119 (y9_0_4) _ _ _ _  (rk_o (l13_0) rfl rfl) (rk_o (l13_4) rfl rfl) (rk_o (l13_5) rfl rfl) (rk_s) H O (SF_refl) (SA_refl)     (show inr (y9_0_4) from q_512 j13_7 r10) (show 0 ≤ (y9_0_4) ∧ (y9_0_4) ≤ 16777215 from q_3448 j13_7 r5) (show (y9_0_4) < (x13_4) + 4 ∧ (y9_0_4) = (y9_0_4) ∨ (x13_4) + 4 ≤ (y9_0_4) ∧ (y9_0_4) = nvl (ub8 ((w3))) (q4 + 1) 3 from q_3447 b80)
            · refine Ew_of (pcₚ := 80) (fun _ => x_aload_n rfl (rk_o (l13_0) rfl rfl)) ?_
              refine Ew_of (pcₚ := 82) (fun _ => x_bipush (z := 9) rfl (by decide)) ?_
              refine Ew_of (pcₚ := 84) (fun _ => x_iload rfl (rk_o (l13_4) rfl rfl)) ?_
              have r82 : (-2147483648 : Int) ≤ F_13 0 8 ∧ F_13 0 8 ≤ 2147483647 := H.krg 0 8 (ltn len_V210_Row_Row_oz_D6cls rfl)
              refine v_inv H (o := 0) rfl rfl rfl rfl rfl rfl (by rfl) (C203 (D := puc 0 D_13) (N := puc 0 N_13) (HW_subc H oz_D6cls_37 oz_D6cls_29) (F_13 0 8) (rfl) (show inr (9) from q_291) (show inr (x13_4) from j13_0) (fun z83 σ83 F83ₚ A83ₚ Hₚ Oₚ hS83 hA83 y83_0_8 ey83_0_8 pz83_0 pz83_1 pz83_2 => ⟨rfl, ?_⟩))
              refine v_backc (c := c_13) (s := s_13) H oz_D6cls_37 oz_D6cls_29 Hₚ Oₚ (fun F83 A83 H Oₚ eF83 eA83 => ?_)
              have O := OUT_trans O Oₚ
              -- Tags.fail
              have cF83 : SF oz_D6clsl_13 F F83 := SF_trans (cF_13) (SF_gluc (ι := oz_D6clsl_8) oz_D6cls_29 hS83 eF83 (by decide +kernel)) (any_sub (lₚ := [(0, 8)]) (by decide +kernel))
              have mF83 := SFm_of cF83 oz_D6cls_42
              have cA83 : SA oz_D6clsl_6 A A83 := SA_trans (cA_13) (SA_gluc (ι := oz_D6clsl_8) oz_D6cls_29 hA83 eA83 (by decide +kernel)) (any_subA (lₚ := []) (by decide +kernel))
              have mA83 := SAm_of cA83 oz_D6cls_43
              have r84 : (-2147483648 : Int) ≤ y83_0_8 ∧ y83_0_8 ≤ 2147483647 := rngE (show (-2147483648 : Int) ≤ F83 0 8 ∧ F83 0 8 ≤ 2147483647 from H.krg 0 8 (ltn len_V210_Row_Row_oz_D6cls rfl)) (show F83 0 8 = y83_0_8 from ((eF83 0 8).trans ey83_0_8))
              have : IMP (((z83) : Int) ≠ 0) (IT (TUs (ub8 ((w3))) ((u1_1)) ((a3))) (TUe (ub8 ((w3))) ((u1_1)) ((a3))) (0, []) (((z83) : Int), (y83_0_8), [])) := fun z => ITO_e j13_x (TUe_h (z := 0) (by omega) (TUh_9 hkd (by omega) (by omega) (by omega) (by omega)) z)
              have : IMP (((z83) : Int) = 0) (IT (TUs (ub8 ((w3))) ((u1_1)) ((a3))) (TUe (ub8 ((w3))) ((u1_1)) ((a3))) (0, []) (0, (y83_0_8), sc ((w13_4)) 0 ((y13_2_1)))) := fun z => absurd z (by omega)
              exact w_ireturn rfl (k (z83) _ _ _ _ _ _ _ H O (cD_13) (cN_13) (cF83) (cA83) ((((show F83 2 0 = F_13 2 0 from (eF83 2 0)))).trans (pm13_4)) (m13_4) (em13_4) (y83_0_8) (((eF83 0 8).trans ey83_0_8)) (y13_2_1) ((((show F83 2 1 = F_13 2 1 from (eF83 2 1))).trans (ey13_2_1))) (y13_2_2) ((((show F83 2 2 = F_13 2 2 from (eF83 2 2))).trans (ey13_2_2))) (w13_4) (((show A83 4 = A_13 4 from (eA83 4))).trans (ew13_4)) (show inr (z83) from pz83_0) (show 0 ≤ (z83) ∧ (z83) ≤ 12 from q_3454 pz83_1) (show 0 ≤ (y13_2_1) ∧ (y13_2_1) ≤ (m13_4) ∧ (m13_4) ≤ 65536 from j13_5) (show (y13_2_2) = 0 from j13_8) (show IMP ((z83) ≠ 0) (IT (TUs (ub8 ((w3))) ((u1_1)) (a3)) (TUe (ub8 ((w3))) ((u1_1)) (a3)) (0, []) ((z83), (y83_0_8), [])) by assumption) (show IMP ((z83) = 0) (IT (TUs (ub8 ((w3))) ((u1_1)) (a3)) (TUe (ub8 ((w3))) ((u1_1)) (a3)) (0, []) (0, (y83_0_8), sc ((w13_4)) 0 ((y13_2_1)))) by assumption) (show (z83) ≠ 0 ∨ (y83_0_8) = (u1_1) from q_3453 pz83_1))
        · refine Ew_of (pcₚ := 51) (fun _ => x_iload rfl rk_s) ?_
          refine Ew_of (pcₚ := 54) (fun _ => x_sipush (z := 255) rfl (by decide)) ?_
          refine w_icmpeq (t := 66) rfl rfl (show inr ((v24 % 256)) from q_461) (show inr (255) from q_297) (fun b85 => ?_) (fun b85 => ?_)
          · refine Ew_of (pcₚ := 68) (fun _ => x_iload rfl rk_s) ?_
            refine Ew_of (pcₚ := 69) (fun _ => x_iconst rfl) ?_
            refine w_icmplt (t := 88) rfl rfl (show inr ((v24 % 256)) from q_3455 b85) (show inr (2) from q_122) (fun b86 => ?_) (fun b86 => ?_)
            · have hc119 : ∀ (tc119_0 : Int), ∀ (ls : rO) (σ : rS) (F_c119 : hF) (A_c119 : hA) , rlook ls 0 = some (.ref (D_13 0)) → rlook ls 4 = some (I (x13_4)) → rlook ls 5 = some (I (x13_5)) → rlook ls 6 = some (I ((v24 % 256))) → HW V210_Row_Row σ D_13 N_13 F_c119 A_c119 → OUT (V210_Row_Row).length D N σE c s D_13 N_13 σ c_13 s_13 → SF [] F_13 F_c119 → SA [] A_13 A_c119 → (inr (tc119_0)) → (0 ≤ (tc119_0) ∧ (tc119_0) ≤ 16777215) → ((y9_0_4) < (x13_4) + 4 ∧ (tc119_0) = (y9_0_4) ∨ (x13_4) + 4 ≤ (y9_0_4) ∧ (tc119_0) = nvl (ub8 ((w3))) (q4 + 1) 3) → Ew 210 (d + 5) 119 ls [I (tc119_0)] σ c_13 s_13 Q := by
               as_aux_lemma =>
                intro tc119_0 ls σ F_c119 A_c119  lc119_0 lc119_4 lc119_5 lc119_6 H O hS_c119 hA_c119     jc119_0 jc119_1 jc119_2
                have cF_c119 : SF oz_D6clsl_13 F F_c119 := SF_trans (cF_13) hS_c119 (any_sub (by decide +kernel))
                have mF_c119 := SFm_of cF_c119 oz_D6cls_42
                have cA_c119 : SA oz_D6clsl_6 A A_c119 := SA_trans (cA_13) hA_c119 (any_subA (by decide +kernel))
                have mA_c119 := SAm_of cA_c119 oz_D6cls_43
                refine Ew_of (pcₚ := 121) (fun _ => x_istore rfl) ?_
                refine Ew_of (pcₚ := 122) (fun _ => x_aload_n rfl (rk_o (lc119_0) rfl rfl)) ?_
                refine v_g H (o := 0) (v := I (y9_0_4)) rfl rfl rfl rfl rfl (congrArg (fun z : Int => I z) ((((hS_c119 0 4 rfl).trans (hS_13 0 4 rfl)).trans ((eF9 0 4).trans ey9_0_4)) : F_c119 0 4 = y9_0_4)) ?_
                refine Ew_of (pcₚ := 127) (fun _ => x_iload rfl (rk_o (lc119_4) rfl rfl)) ?_
                refine w_isub rfl ?_
                refine Ew_of (pcₚ := 129) (fun _ => x_iconst rfl) ?_
                refine w_isub rfl ?_
                refine Ew_of (pcₚ := 132) (fun _ => x_iload rfl rk_s) ?_
                refine w_icmpge (t := 146) rfl rfl (show inr (((y9_0_4 - x13_4) - 4)) from q_3456 b20 b25 r10) (show inr (tc119_0) from jc119_0) (fun b87 => ?_) (fun b87 => ?_)
                · have hz7 : (tc119_0) = nvl (ub8 ((w3))) (q4 + 1) 3 := q_3457 b25 b87 jc119_2
                  refine Ew_of (pcₚ := 148) (fun _ => x_iload rfl (rk_o (lc119_6) rfl rfl)) ?_
                  have hc186 : ∀ (ls : rO) (σ : rS) (F_c186 : hF) (A_c186 : hA) , rlook ls 0 = some (.ref (D_13 0)) → rlook ls 4 = some (I (x13_4)) → rlook ls 5 = some (I (x13_5)) → rlook ls 6 = some (I ((v24 % 256))) → rlook ls 7 = some (I (tc119_0)) → HW V210_Row_Row σ D_13 N_13 F_c186 A_c186 → OUT (V210_Row_Row).length D N σE c s D_13 N_13 σ c_13 s_13 → SF [] F_c119 F_c186 → SA [] A_c119 A_c186 → (IMP (((v24 % 256)) = 255) ((tc119_0) = 6 ∧ MKQ (ub8 ((w3))) (q4) ((u1_1)))) → Ew 210 (d + 5) 186 ls [] σ c_13 s_13 Q := by
                   as_aux_lemma =>
                    intro  ls σ F_c186 A_c186  lc186_0 lc186_4 lc186_5 lc186_6 lc186_7 H O hS_c186 hA_c186     jc186_0
                    have cF_c186 : SF oz_D6clsl_13 F F_c186 := SF_trans (cF_c119) hS_c186 (any_sub (by decide +kernel))
                    have mF_c186 := SFm_of cF_c186 oz_D6cls_42
                    have cA_c186 : SA oz_D6clsl_6 A A_c186 := SA_trans (cA_c119) hA_c186 (any_subA (by decide +kernel))
                    have mA_c186 := SAm_of cA_c186 oz_D6cls_43
                    have k186 : IMP (((v24 % 256)) = 255) ((tc119_0) = 6 ∧ MKQ (ub8 ((w3))) (q4) ((u1_1))) := jc186_0
                    have hTg : TUg (ub8 ((w3))) ((u1_1)) (q4) (((v24 % 256))) ((tc119_0)) := ⟨hkd, by omega, by omega, by omega, hz7, by omega⟩
                    obtain ⟨q6, hq6⟩ : ∃ q : Int, q = ((v24 % 256)) := ⟨_, rfl⟩
                    refine Ew_of (pcₚ := 188) (fun _ => x_iload rfl lc186_6) ?_
                    have hc212 : ∀ (ls : rO) (σ : rS) (D_c212 N_c212 : Nat → Nat) (c_c212 s_c212 : Nat) (F_c212 : hF) (A_c212 : hA) , rlook ls 0 = some (.ref (D_c212 0)) → rlook ls 4 = some (I (x13_4)) → rlook ls 5 = some (I (x13_5)) → rlook ls 7 = some (I (tc119_0)) → HW V210_Row_Row σ D_c212 N_c212 F_c212 A_c212 → OUT (V210_Row_Row).length D N σE c s D_c212 N_c212 σ c_c212 s_c212 → SD [4] D_13 D_c212 → SD [4] N_13 N_c212 → SF [(0, 7), (0, 8), (2, 0), (2, 1), (2, 2)] F_c186 F_c212 → SA [4] A_c186 A_c212 → F_c212 2 0 = (D_c212 4 : Int) → ∀ mc212_4 : Int, (N_c212 4 : Int) = mc212_4 → ∀ yc212_2_1 : Int, F_c212 2 1 = yc212_2_1 → ∀ yc212_2_2 : Int, F_c212 2 2 = yc212_2_2 → ∀ wc212_4 : Int → Int, A_c212 4 = wc212_4 → (0 ≤ (x13_4) ∧ (x13_4) ≤ (y9_0_4)) → (0 ≤ (yc212_2_1) ∧ (yc212_2_1) ≤ (mc212_4) ∧ (mc212_4) ≤ 65536) → ((yc212_2_1) ≤ (a3)) → (0 ≤ (y9_0_4) ∧ (y9_0_4) ≤ (n3)) → ((yc212_2_2) = 0) → ((y9_0_6) = (a3) ∧ (y9_0_4) = (u1_1)) → (TUs (ub8 ((w3))) ((u1_1)) ((a3)) (q4, CX) (q4 + 4 + (tc119_0), sc ((wc212_4)) 0 ((yc212_2_1)))) → Ew 210 (d + 5) 212 ls [] σ c_c212 s_c212 Q := by
                     as_aux_lemma =>
                      intro  ls σ D_c212 N_c212 c_c212 s_c212 F_c212 A_c212  lc212_0 lc212_4 lc212_5 lc212_7 H O hD_c212 hN_c212 hS_c212 hA_c212 pmc212_4 mc212_4 emc212_4 yc212_2_1 eyc212_2_1 yc212_2_2 eyc212_2_2 wc212_4 ewc212_4 jc212_0 jc212_1 jc212_2 jc212_3 jc212_4 jc212_5 jc212_6
                      have cF_c212 : SF oz_D6clsl_13 F F_c212 := SF_trans (cF_c186) hS_c212 (any_sub (by decide +kernel))
                      have mF_c212 := SFm_of cF_c212 oz_D6cls_42
                      have cA_c212 : SA oz_D6clsl_6 A A_c212 := SA_trans (cA_c186) hA_c212 (any_subA (by decide +kernel))
                      have mA_c212 := SAm_of cA_c212 oz_D6cls_43
                      have cD_c212 : SD oz_D6clsl_6 D D_c212 := SD_trans (cD_13) hD_c212 (any_subA (by decide +kernel))
                      have mD_c212 := SDm_of cD_c212 oz_D6cls_43
                      have cN_c212 : SD oz_D6clsl_6 N N_c212 := SD_trans (cN_13) hN_c212 (any_subA (by decide +kernel))
                      have mN_c212 := SDm_of cN_c212 oz_D6cls_43
                      have pf_c212_0_3 : F_c212 0 3 = (D_c212 3 : Int) := (hS_c212 0 3 rfl).trans (((((hS_c186 0 3 rfl).trans (hS_c119 0 3 rfl))).trans (pf_13_0_3)).trans (congrArg (fun q : Nat => (q : Int)) (hD_c212 3 rfl).symm))
                      have pf_c212_0_5 : F_c212 0 5 = (D_c212 2 : Int) := (hS_c212 0 5 rfl).trans (((((hS_c186 0 5 rfl).trans (hS_c119 0 5 rfl))).trans (pf_13_0_5)).trans (congrArg (fun q : Nat => (q : Int)) (hD_c212 2 rfl).symm))
                      have r88 : (0 : Int) ≤ mc212_4 ∧ mc212_4 ≤ 1000000 := nleE (H.nle 4 (ltn len_V210_Row_Row_oz_D6cls rfl)) (show (N_c212 4 : Int) = mc212_4 from emc212_4)
                      have r89 : (-2147483648 : Int) ≤ yc212_2_1 ∧ yc212_2_1 ≤ 2147483647 := rngE (show (-2147483648 : Int) ≤ F_c212 2 1 ∧ F_c212 2 1 ≤ 2147483647 from H.krg 2 1 (ltn len_V210_Row_Row_oz_D6cls rfl)) (show F_c212 2 1 = yc212_2_1 from (eyc212_2_1))
                      have r90 : (0 : Int) ≤ yc212_2_2 ∧ yc212_2_2 ≤ 1 := rngE (show (0 : Int) ≤ F_c212 2 2 ∧ F_c212 2 2 ≤ 1 from H.krg 2 2 (ltn len_V210_Row_Row_oz_D6cls rfl)) (show F_c212 2 2 = yc212_2_2 from (eyc212_2_2))
                      have k212 : TUs (ub8 ((w3))) ((u1_1)) ((a3)) (q4, CX) (q4 + 4 + (tc119_0), sc ((wc212_4)) 0 ((yc212_2_1))) := by assumption
                      refine Ew_of (pcₚ := 214) (fun _ => x_iload rfl lc212_4) ?_
                      refine Ew_of (pcₚ := 215) (fun _ => x_iconst rfl) ?_
                      refine Ew_of (pcₚ := 217) (fun _ => x_iload rfl lc212_7) ?_
                      refine w_iadd rfl ?_
                      refine w_iadd rfl ?_
                      have : ITO (TUs (ub8 ((w3))) ((u1_1)) ((a3))) (TUe (ub8 ((w3))) ((u1_1)) ((a3))) (0, []) ((x13_4) + (4 + (tc119_0)), sc ((wc212_4)) 0 ((yc212_2_1))) := by have h := ITO_s j13_x k212; rw [show q4 + 4 + (tc119_0) = (x13_4) + (4 + (tc119_0)) by omega] at h; exact h
                      refine Ew_of (pcₚ := 221) (fun _ => x_istore rfl) ?_
                      refine Ew_of (pcₚ := 224) (fun _ => x_iinc (len := 3) rfl (rk_o (lc212_5) rfl rfl)) ?_
                      refine Ew_of (pcₚ := 13) (fun _ => x_goto rfl rfl) ?_
                      exact ih13 _ (msE hm13 q_16 (q_17 b16)) _ _ _ _ _ _ _ _ ((x13_4 + (4 + tc119_0))) ((x13_5 + 1)) (rk_o (rk_o (lc212_0) rfl rfl) rfl rfl) (rk_o (rk_s) rfl rfl) (rk_s) H O (SD_trans (hD_13) hD_c212 (any_subA (by decide +kernel))) (SD_trans (hN_13) hN_c212 (any_subA (by decide +kernel))) (SF_trans (SF_trans (SF_trans (hS_13) hS_c119 (any_sub (by decide +kernel))) hS_c186 (any_sub (by decide +kernel))) hS_c212 (any_sub (by decide +kernel))) (SA_trans (SA_trans (SA_trans (hA_13) hA_c119 (any_subA (by decide +kernel))) hA_c186 (any_subA (by decide +kernel))) hA_c212 (any_subA (by decide +kernel))) (pmc212_4) (mc212_4) (emc212_4) (yc212_2_1) ((eyc212_2_1)) (yc212_2_2) ((eyc212_2_2)) (wc212_4) (ewc212_4) (show inr ((x13_4 + (4 + tc119_0))) from q_3459 b25 jc119_1 jc212_0) (show inr ((x13_5 + 1)) from q_3458 b25 j13_10 j13_2) (show (0) ≤ ((x13_5 + 1)) from q_14 j13_2) (show ((x13_5 + 1)) ≤ (0) ∨ ((x13_5 + 1)) ≤ ((y9_0_4)) from q_13 b16) (show 0 ≤ ((x13_4 + (4 + tc119_0))) ∧ ((x13_4 + (4 + tc119_0))) ≤ (y9_0_4) from q_3432 b87 jc119_1 jc212_0) (show 0 ≤ (yc212_2_1) ∧ (yc212_2_1) ≤ (mc212_4) ∧ (mc212_4) ≤ 65536 from jc212_1) (show (yc212_2_1) ≤ (a3) from jc212_2) (show 0 ≤ (y9_0_4) ∧ (y9_0_4) ≤ (n3) from jc212_3) (show (yc212_2_2) = 0 from jc212_4) (show (y9_0_6) = (a3) ∧ (y9_0_4) = (u1_1) from jc212_5) (show ((x13_5 + 1)) ≤ ((x13_4 + (4 + tc119_0))) from q_3431 j13_10 jc119_1) (show ITO (TUs (ub8 ((w3))) ((u1_1)) ((a3))) (TUe (ub8 ((w3))) ((u1_1)) ((a3))) (0, []) (((x13_4 + (4 + tc119_0))), sc ((wc212_4)) 0 ((yc212_2_1))) by assumption) rfl
                    refine Ew_of (pcₚ := 189) (fun _ => x_iconst rfl) ?_
                    refine w_icmpge (t := 212) rfl rfl (show inr ((v24 % 256)) from q_3460 b85 b86) (show inr (2) from q_122) (fun b91 => ?_) (fun b91 => ?_)
                    · have : TUs (ub8 ((w3))) ((u1_1)) ((a3)) (q4, CX) (q4 + 4 + (tc119_0), sc ((w13_4)) 0 ((y13_2_1))) := by first | (rw [← hCX]; exact TUs_n (k := q6) (by omega) (TUh_0 (pl := 0) (by rw [hq6]; exact hTg) (by rcases (show q6 = 255 ∨ q6 ≠ 255 by omega) with z | z; (exact .inl ⟨z, (k186 (by omega)).1, (k186 (by omega)).2⟩); (exact .inr (.inr ⟨by omega, z⟩))) rfl) (by omega) rfl) | (obtain ⟨x, pl0, X, y, w1, w2⟩ := hcy (by omega); rw [← hCX, ← hq4] at y; rw [← hq4] at w1; rw [← hCX] at w2; exact TUs_y (by omega) (TUh_0 (pl := 0) hTg (.inr (.inl ⟨by omega, x⟩)) rfl) (by omega) y w1 rfl w2)
                      exact hc212  _ _ _ _ _ _ _ _  (lc186_0) (lc186_4) (lc186_5) (lc186_7) H O (SD_refl) (SD_refl) (SF_refl) (SA_refl) ((((hS_c186 2 0 rfl).trans (hS_c119 2 0 rfl))).trans (pm13_4)) (m13_4) (em13_4) (y13_2_1) ((((hS_c186 2 1 rfl).trans (hS_c119 2 1 rfl)).trans (ey13_2_1))) (y13_2_2) ((((hS_c186 2 2 rfl).trans (hS_c119 2 2 rfl)).trans (ey13_2_2))) (w13_4) ((funext (hA_c186 4 rfl)).trans ((funext (hA_c119 4 rfl)).trans (ew13_4))) (show 0 ≤ (x13_4) ∧ (x13_4) ≤ (y9_0_4) from j13_4) (show 0 ≤ (y13_2_1) ∧ (y13_2_1) ≤ (m13_4) ∧ (m13_4) ≤ 65536 from j13_5) (show (y13_2_1) ≤ (a3) from j13_6) (show 0 ≤ (y9_0_4) ∧ (y9_0_4) ≤ (n3) from j13_7) (show (y13_2_2) = 0 from j13_8) (show (y9_0_6) = (a3) ∧ (y9_0_4) = (u1_1) from j13_9) (show TUs (ub8 ((w3))) ((u1_1)) ((a3)) (q4, CX) (q4 + 4 + (tc119_0), sc ((w13_4)) 0 ((y13_2_1))) by assumption)
                    · refine Ew_of (pcₚ := 193) (fun _ => x_aload_n rfl lc186_0) ?_
                      refine Ew_of (pcₚ := 195) (fun _ => x_iload rfl lc186_4) ?_
                      refine Ew_of (pcₚ := 197) (fun _ => x_iload rfl lc186_6) ?_
                      refine Ew_of (pcₚ := 199) (fun _ => x_iload rfl lc186_7) ?_
                      have r92 : (-2147483648 : Int) ≤ F_13 0 8 ∧ F_13 0 8 ≤ 2147483647 := rngE (show (-2147483648 : Int) ≤ F_c186 0 8 ∧ F_c186 0 8 ≤ 2147483647 from H.krg 0 8 (ltn len_V210_Row_Row_oz_D6cls rfl)) (show F_c186 0 8 = F_13 0 8 from ((hS_c186 0 8 rfl).trans (hS_c119 0 8 rfl)))
                      refine v_inv H (o := 0) rfl rfl rfl rfl rfl rfl (by rfl) (C211 (D := puc 537396736 D_13) (N := puc 537396736 N_13) (HW_subc H oz_D6cls_38 oz_D6cls_44) (STC_out HT HE O) ((((hS_c186 0 3 rfl).trans (hS_c119 0 3 rfl))).trans (pf_13_0_3)) ((((hS_c186 0 5 rfl).trans (hS_c119 0 5 rfl))).trans (pf_13_0_5)) ((((hS_c186 2 0 rfl).trans (hS_c119 2 0 rfl))).trans (pm13_4)) (n3) ((congrArg (fun q : Nat => (q : Int)) (mN_13 3 rfl)).trans (en3)) (m13_4) (em13_4) (y9_0_6) (((((hS_c186 0 6 rfl).trans (hS_c119 0 6 rfl)).trans (hS_13 0 6 rfl)).trans ((eF9 0 6).trans ey9_0_6))) (F_13 0 8) (((hS_c186 0 8 rfl).trans (hS_c119 0 8 rfl))) (y13_2_1) ((((hS_c186 2 1 rfl).trans (hS_c119 2 1 rfl)).trans (ey13_2_1))) (y13_2_2) ((((hS_c186 2 2 rfl).trans (hS_c119 2 2 rfl)).trans (ey13_2_2))) (w3) ((funext (mA_c186 3 rfl)).trans (ew3)) (w13_4) ((funext (hA_c186 4 rfl)).trans ((funext (hA_c119 4 rfl)).trans (ew13_4))) (show inr (x13_4) from j13_0) (show inr ((v24 % 256)) from q_3460 b85 b91) (show inr (tc119_0) from jc119_0) (show 0 ≤ (x13_4) ∧ 0 ≤ (tc119_0) ∧ (x13_4) + 4 + (tc119_0) ≤ (n3) ∧ (n3) ≤ 65536 from q_3437 b87 h1 j13_4 j13_7 jc119_1) (show 0 ≤ (y13_2_1) ∧ (y13_2_1) ≤ (m13_4) ∧ (m13_4) ≤ 65536 from j13_5) (show 0 ≤ (y9_0_6) ∧ (y9_0_6) ≤ 65536 ∧ (y13_2_1) ≤ (y9_0_6) from q_3436 h3 j13_6 j13_9) (show (y13_2_2) = 0 from j13_8) (show 0 ≤ ((v24 % 256)) ∧ ((v24 % 256)) ≤ 1 from q_3461 b85 b91) (fun z93 σ93 D93ₚ N93ₚ F93ₚ A93ₚ c93 s93 Hₚ Oₚ hD93 hN93 hS93 hA93 pm93_3 m93_3 em93_3 y93_0_8 ey93_0_8 y93_2_1 ey93_2_1 y93_2_2 ey93_2_2 w93_3 ew93_3 pz93_0 pz93_1 pz93_2 pz93_3 pz93_4 pz93_5 pz93_6 => ⟨rfl, ?_⟩))
                      refine v_backMc (c := c_13) (s := s_13) H oz_D6cls_38 oz_D6cls_44 Hₚ Oₚ hD93 oz_D6cls_39 (fun D93 N93 F93 A93 H Oₚ eD93 eN93 eF93 eA93 => ?_)
                      have O := OUT_trans O Oₚ
                      -- Tags.unpackChunk
                      have cF93 : SF oz_D6clsl_13 F F93 := SF_trans (cF_c186) (SF_gluc (ι := oz_D6clsl_14) oz_D6cls_44 hS93 eF93 (by decide +kernel)) (any_sub (lₚ := [(0, 7), (0, 8), (2, 0), (2, 1), (2, 2)]) (by decide +kernel))
                      have mF93 := SFm_of cF93 oz_D6cls_42
                      have cA93 : SA oz_D6clsl_6 A A93 := SA_trans (cA_c186) (SA_gluc (ι := oz_D6clsl_14) oz_D6cls_44 hA93 eA93 (by decide +kernel)) (any_subA (lₚ := [4]) (by decide +kernel))
                      have mA93 := SAm_of cA93 oz_D6cls_43
                      have cD93 : SD oz_D6clsl_6 D D93 := SD_trans (cD_13) (SD_gluc (ι := oz_D6clsl_14) oz_D6cls_44 hD93 eD93 (by decide +kernel)) (any_subA (lₚ := [4]) (by decide +kernel))
                      have mD93 := SDm_of cD93 oz_D6cls_43
                      have cN93 : SD oz_D6clsl_6 N N93 := SD_trans (cN_13) (SD_gluc (ι := oz_D6clsl_14) oz_D6cls_44 hN93 eN93 (by decide +kernel)) (any_subA (lₚ := [4]) (by decide +kernel))
                      have mN93 := SDm_of cN93 oz_D6cls_43
                      have pf93_0_3 : F93 0 3 = (D93 3 : Int) := ((show F93 0 3 = F_c186 0 3 from (eF93 0 3).trans (hS93 0 3 rfl))).trans (((((hS_c186 0 3 rfl).trans (hS_c119 0 3 rfl))).trans (pf_13_0_3)).trans (congrArg (fun q : Nat => (q : Int)) ((show D93 3 = D_13 3 from (eD93 3).trans (hD93 1 rfl))).symm))
                      have pf93_0_5 : F93 0 5 = (D93 2 : Int) := ((show F93 0 5 = F_c186 0 5 from (eF93 0 5).trans (hS93 0 5 rfl))).trans (((((hS_c186 0 5 rfl).trans (hS_c119 0 5 rfl))).trans (pf_13_0_5)).trans (congrArg (fun q : Nat => (q : Int)) ((show D93 2 = D_13 2 from (eD93 2).trans (hD93 2 rfl))).symm))
                      have pf93_2_0 : F93 2 0 = (D93 4 : Int) := (eF93 2 0).trans (pm93_3.trans (congrArg (fun q : Nat => (q : Int)) (eD93 4).symm))
                      have r94 : (0 : Int) ≤ m93_3 ∧ m93_3 ≤ 1000000 := nleE (H.nle 4 (ltn len_V210_Row_Row_oz_D6cls rfl)) (show (N93 4 : Int) = m93_3 from (congrArg (fun q : Nat => (q : Int)) (eN93 4)).trans em93_3)
                      have r95 : (-2147483648 : Int) ≤ y93_0_8 ∧ y93_0_8 ≤ 2147483647 := rngE (show (-2147483648 : Int) ≤ F93 0 8 ∧ F93 0 8 ≤ 2147483647 from H.krg 0 8 (ltn len_V210_Row_Row_oz_D6cls rfl)) (show F93 0 8 = y93_0_8 from ((eF93 0 8).trans ey93_0_8))
                      have r96 : (-2147483648 : Int) ≤ y93_2_1 ∧ y93_2_1 ≤ 2147483647 := rngE (show (-2147483648 : Int) ≤ F93 2 1 ∧ F93 2 1 ≤ 2147483647 from H.krg 2 1 (ltn len_V210_Row_Row_oz_D6cls rfl)) (show F93 2 1 = y93_2_1 from ((eF93 2 1).trans ey93_2_1))
                      have r97 : (0 : Int) ≤ y93_2_2 ∧ y93_2_2 ≤ 1 := rngE (show (0 : Int) ≤ F93 2 2 ∧ F93 2 2 ≤ 1 from H.krg 2 2 (ltn len_V210_Row_Row_oz_D6cls rfl)) (show F93 2 2 = y93_2_2 from ((eF93 2 2).trans ey93_2_2))
                      have hcy := pz93_5
                      have hcf := pz93_6
                      try rw [show (y9_0_6) = (a3) by omega] at hcy
                      try rw [show (y9_0_6) = (a3) by omega] at hcf
                      refine Ew_of (pcₚ := 204) (fun _ => x_istore rfl) ?_
                      refine Ew_of (pcₚ := 206) (fun _ => x_iload rfl rk_s) ?_
                      refine w_ifeq (t := 212) rfl rfl (show inr (z93) from pz93_0) (fun b98 => ?_) (fun b98 => ?_)
                      · have : TUs (ub8 ((w3))) ((u1_1)) ((a3)) (q4, CX) (q4 + 4 + (tc119_0), sc ((w93_3)) 0 ((y93_2_1))) := by first | (rw [← hCX]; exact TUs_n (k := q6) (by omega) (TUh_0 (pl := 0) (by rw [hq6]; exact hTg) (by rcases (show q6 = 255 ∨ q6 ≠ 255 by omega) with z | z; (exact .inl ⟨z, (k186 (by omega)).1, (k186 (by omega)).2⟩); (exact .inr (.inr ⟨by omega, z⟩))) rfl) (by omega) rfl) | (obtain ⟨x, pl0, X, y, w1, w2⟩ := hcy (by omega); rw [← hCX, ← hq4] at y; rw [← hq4] at w1; rw [← hCX] at w2; exact TUs_y (by omega) (TUh_0 (pl := 0) hTg (.inr (.inl ⟨by omega, x⟩)) rfl) (by omega) y w1 rfl w2)
                        exact hc212  _ _ _ _ _ _ _ _  ((rk_o (lc186_0) rfl rfl).trans (congrArg (fun q : Nat => some (Value.ref q)) (((show D93 0 = D_13 0 from (eD93 0).trans (hD93 0 rfl)))).symm)) (rk_o (lc186_4) rfl rfl) (rk_o (lc186_5) rfl rfl) (rk_o (lc186_7) rfl rfl) H O (SD_trans (SD_refl) (SD_gluc (ι := oz_D6clsl_14) oz_D6cls_44 hD93 eD93 (by decide +kernel)) (any_subA (lₚ := [4]) (by decide +kernel))) (SD_trans (SD_refl) (SD_gluc (ι := oz_D6clsl_14) oz_D6cls_44 hN93 eN93 (by decide +kernel)) (any_subA (lₚ := [4]) (by decide +kernel))) (SF_trans (SF_refl) (SF_gluc (ι := oz_D6clsl_14) oz_D6cls_44 hS93 eF93 (by decide +kernel)) (any_sub (lₚ := [(0, 7), (0, 8), (2, 0), (2, 1), (2, 2)]) (by decide +kernel))) (SA_trans (SA_refl) (SA_gluc (ι := oz_D6clsl_14) oz_D6cls_44 hA93 eA93 (by decide +kernel)) (any_subA (lₚ := [4]) (by decide +kernel))) (pf93_2_0) (m93_3) ((congrArg (fun q : Nat => (q : Int)) (eN93 4)).trans em93_3) (y93_2_1) (((eF93 2 1).trans ey93_2_1)) (y93_2_2) (((eF93 2 2).trans ey93_2_2)) (w93_3) ((eA93 4).trans ew93_3) (show 0 ≤ (x13_4) ∧ (x13_4) ≤ (y9_0_4) from j13_4) (show 0 ≤ (y93_2_1) ∧ (y93_2_1) ≤ (m93_3) ∧ (m93_3) ≤ 65536 from pz93_2) (show (y93_2_1) ≤ (a3) from q_3398 j13_9 pz93_3) (show 0 ≤ (y9_0_4) ∧ (y9_0_4) ≤ (n3) from j13_7) (show (y93_2_2) = 0 from pz93_4) (show (y9_0_6) = (a3) ∧ (y9_0_4) = (u1_1) from j13_9) (show TUs (ub8 ((w3))) ((u1_1)) ((a3)) (q4, CX) (q4 + 4 + (tc119_0), sc ((w93_3)) 0 ((y93_2_1))) by assumption)
                      · refine Ew_of (pcₚ := 211) (fun _ => x_iload rfl rk_s) ?_
                        have : IMP (((z93) : Int) ≠ 0) (IT (TUs (ub8 ((w3))) ((u1_1)) ((a3))) (TUe (ub8 ((w3))) ((u1_1)) ((a3))) (0, []) (((z93) : Int), (y93_0_8), [])) := fun z => by rcases hcf z with ⟨x, y, w⟩ | ⟨x, f0, pl0, X, y, w⟩; (exact ITO_e j13_x (TUe_h (by omega) (TUh_10 hTg (by omega) x y (by omega)) z)); (rw [← hCX, ← hq4] at y; rcases w with ⟨w1, w2, w3⟩ | ⟨w1, w2, w3, w4⟩); (rw [w2, w3]; exact ITO_e j13_x (TUe_b (by omega) (TUh_0 (pl := 0) hTg (.inr (.inl ⟨by omega, x⟩)) rfl) (by omega) y w1)); (rw [← hq4] at w2; rw [w1] at y; exact ITO_e j13_x (TUe_c (by omega) (TUh_0 (pl := 0) hTg (.inr (.inl ⟨by omega, x⟩)) rfl) (by omega) y w2 w3 (by omega)))
                        have : IMP (((z93) : Int) = 0) (IT (TUs (ub8 ((w3))) ((u1_1)) ((a3))) (TUe (ub8 ((w3))) ((u1_1)) ((a3))) (0, []) (0, (y93_0_8), sc ((w93_3)) 0 ((y93_2_1)))) := fun z => absurd z (by omega)
                        exact w_ireturn rfl (k (z93) _ _ _ _ _ _ _ H O (cD93) (cN93) (cF93) (cA93) (pf93_2_0) (m93_3) ((congrArg (fun q : Nat => (q : Int)) (eN93 4)).trans em93_3) (y93_0_8) (((eF93 0 8).trans ey93_0_8)) (y93_2_1) (((eF93 2 1).trans ey93_2_1)) (y93_2_2) (((eF93 2 2).trans ey93_2_2)) (w93_3) ((eA93 4).trans ew93_3) (show inr (z93) from pz93_0) (show 0 ≤ (z93) ∧ (z93) ≤ 12 from pz93_1) (show 0 ≤ (y93_2_1) ∧ (y93_2_1) ≤ (m93_3) ∧ (m93_3) ≤ 65536 from pz93_2) (show (y93_2_2) = 0 from pz93_4) (show IMP ((z93) ≠ 0) (IT (TUs (ub8 ((w3))) ((u1_1)) (a3)) (TUe (ub8 ((w3))) ((u1_1)) (a3)) (0, []) ((z93), (y93_0_8), [])) by assumption) (show IMP ((z93) = 0) (IT (TUs (ub8 ((w3))) ((u1_1)) (a3)) (TUe (ub8 ((w3))) ((u1_1)) (a3)) (0, []) (0, (y93_0_8), sc ((w93_3)) 0 ((y93_2_1)))) by assumption) (show (z93) ≠ 0 ∨ (y93_0_8) = (u1_1) from q_3250 b98))
                  refine Ew_of (pcₚ := 151) (fun _ => x_sipush (z := 255) rfl (by decide)) ?_
                  refine w_icmpne (t := 186) rfl rfl (show inr ((v24 % 256)) from q_3460 b85 b86) (show inr (255) from q_297) (fun b99 => ?_) (fun b99 => ?_)
                  · have : IMP (((v24 % 256)) = 255) ((tc119_0) = 6 ∧ MKQ (ub8 ((w3))) (q4) ((u1_1))) := by first | exact fun z => absurd z (by omega) | exact fun z => ⟨by omega, by rcases hmk with ⟨x, y⟩ | ⟨x, y⟩; (exact y); (omega)⟩
                    exact hc186  _ _ _ _  (rk_o (lc119_0) rfl rfl) (rk_o (lc119_4) rfl rfl) (rk_o (lc119_5) rfl rfl) (rk_o (lc119_6) rfl rfl) (rk_s) H O (SF_refl) (SA_refl)     (show IMP (((v24 % 256)) = 255) ((tc119_0) = 6 ∧ MKQ (ub8 ((w3))) (q4) ((u1_1))) by assumption)
                  · refine Ew_of (pcₚ := 156) (fun _ => x_iload rfl rk_s) ?_
                    refine Ew_of (pcₚ := 158) (fun _ => x_bipush (z := 6) rfl (by decide)) ?_
                    refine w_icmpne (t := 177) rfl rfl (show inr (tc119_0) from jc119_0) (show inr (6) from q_756) (fun b100 => ?_) (fun b100 => ?_)
                    · refine Ew_of (pcₚ := 178) (fun _ => x_aload_n rfl (rk_o (lc119_0) rfl rfl)) ?_
                      refine Ew_of (pcₚ := 180) (fun _ => x_bipush (z := 8) rfl (by decide)) ?_
                      refine Ew_of (pcₚ := 182) (fun _ => x_iload rfl (rk_o (lc119_4) rfl rfl)) ?_
                      have r101 : (-2147483648 : Int) ≤ F_13 0 8 ∧ F_13 0 8 ≤ 2147483647 := rngE (show (-2147483648 : Int) ≤ F_c119 0 8 ∧ F_c119 0 8 ≤ 2147483647 from H.krg 0 8 (ltn len_V210_Row_Row_oz_D6cls rfl)) (show F_c119 0 8 = F_13 0 8 from (hS_c119 0 8 rfl))
                      refine v_inv H (o := 0) rfl rfl rfl rfl rfl rfl (by rfl) (C203 (D := puc 0 D_13) (N := puc 0 N_13) (HW_subc H oz_D6cls_37 oz_D6cls_29) (F_13 0 8) ((hS_c119 0 8 rfl)) (show inr (8) from q_141) (show inr (x13_4) from j13_0) (fun z102 σ102 F102ₚ A102ₚ Hₚ Oₚ hS102 hA102 y102_0_8 ey102_0_8 pz102_0 pz102_1 pz102_2 => ⟨rfl, ?_⟩))
                      refine v_backc (c := c_13) (s := s_13) H oz_D6cls_37 oz_D6cls_29 Hₚ Oₚ (fun F102 A102 H Oₚ eF102 eA102 => ?_)
                      have O := OUT_trans O Oₚ
                      -- Tags.fail
                      have cF102 : SF oz_D6clsl_13 F F102 := SF_trans (cF_c119) (SF_gluc (ι := oz_D6clsl_8) oz_D6cls_29 hS102 eF102 (by decide +kernel)) (any_sub (lₚ := [(0, 8)]) (by decide +kernel))
                      have mF102 := SFm_of cF102 oz_D6cls_42
                      have cA102 : SA oz_D6clsl_6 A A102 := SA_trans (cA_c119) (SA_gluc (ι := oz_D6clsl_8) oz_D6cls_29 hA102 eA102 (by decide +kernel)) (any_subA (lₚ := []) (by decide +kernel))
                      have mA102 := SAm_of cA102 oz_D6cls_43
                      have r103 : (-2147483648 : Int) ≤ y102_0_8 ∧ y102_0_8 ≤ 2147483647 := rngE (show (-2147483648 : Int) ≤ F102 0 8 ∧ F102 0 8 ≤ 2147483647 from H.krg 0 8 (ltn len_V210_Row_Row_oz_D6cls rfl)) (show F102 0 8 = y102_0_8 from ((eF102 0 8).trans ey102_0_8))
                      have : IMP (((z102) : Int) ≠ 0) (IT (TUs (ub8 ((w3))) ((u1_1)) ((a3))) (TUe (ub8 ((w3))) ((u1_1)) ((a3))) (0, []) (((z102) : Int), (y102_0_8), [])) := fun z => ITO_e j13_x (TUe_h (by omega) (TUh_m (z := (tc119_0)) ⟨hkd, by omega, by omega, by omega, hz7, by omega⟩ (by omega) (fun q => by first | (have := q.1; omega) | (rcases hmk with ⟨x, y⟩ | ⟨x, y⟩; (omega); (exact y q.2))) (by omega) (by omega)) z)
                      have : IMP (((z102) : Int) = 0) (IT (TUs (ub8 ((w3))) ((u1_1)) ((a3))) (TUe (ub8 ((w3))) ((u1_1)) ((a3))) (0, []) (0, (y102_0_8), sc ((w13_4)) 0 ((y13_2_1)))) := fun z => absurd z (by omega)
                      exact w_ireturn rfl (k (z102) _ _ _ _ _ _ _ H O (cD_13) (cN_13) (cF102) (cA102) (((((show F102 2 0 = F_c119 2 0 from (eF102 2 0))).trans (hS_c119 2 0 rfl))).trans (pm13_4)) (m13_4) (em13_4) (y102_0_8) (((eF102 0 8).trans ey102_0_8)) (y13_2_1) (((((show F102 2 1 = F_c119 2 1 from (eF102 2 1))).trans (hS_c119 2 1 rfl)).trans (ey13_2_1))) (y13_2_2) (((((show F102 2 2 = F_c119 2 2 from (eF102 2 2))).trans (hS_c119 2 2 rfl)).trans (ey13_2_2))) (w13_4) (((show A102 4 = A_c119 4 from (eA102 4))).trans ((funext (hA_c119 4 rfl)).trans (ew13_4))) (show inr (z102) from pz102_0) (show 0 ≤ (z102) ∧ (z102) ≤ 12 from q_3439 pz102_1) (show 0 ≤ (y13_2_1) ∧ (y13_2_1) ≤ (m13_4) ∧ (m13_4) ≤ 65536 from j13_5) (show (y13_2_2) = 0 from j13_8) (show IMP ((z102) ≠ 0) (IT (TUs (ub8 ((w3))) ((u1_1)) (a3)) (TUe (ub8 ((w3))) ((u1_1)) (a3)) (0, []) ((z102), (y102_0_8), [])) by assumption) (show IMP ((z102) = 0) (IT (TUs (ub8 ((w3))) ((u1_1)) (a3)) (TUe (ub8 ((w3))) ((u1_1)) (a3)) (0, []) (0, (y102_0_8), sc ((w13_4)) 0 ((y13_2_1)))) by assumption) (show (z102) ≠ 0 ∨ (y102_0_8) = (u1_1) from q_3438 pz102_1))
                    · refine Ew_of (pcₚ := 162) (fun _ => x_aload_n rfl (rk_o (lc119_0) rfl rfl)) ?_
                      refine v_g H (o := 0) (v := .ref (D_13 3)) rfl rfl rfl rfl rfl (vrf (((hS_c119 0 3 rfl)).trans (pf_13_0_3))) ?_
                      refine Ew_of (pcₚ := 167) (fun _ => x_iload rfl (rk_o (lc119_4) rfl rfl)) ?_
                      refine Ew_of (pcₚ := 168) (fun _ => x_aload_n rfl (rk_o (lc119_0) rfl rfl)) ?_
                      refine v_g H (o := 0) (v := I (y9_0_4)) rfl rfl rfl rfl rfl (congrArg (fun z : Int => I z) ((((hS_c119 0 4 rfl).trans (hS_13 0 4 rfl)).trans ((eF9 0 4).trans ey9_0_4)) : F_c119 0 4 = y9_0_4)) ?_
                      refine w_stat24 rfl rfl (by rfl) (C192_Br (D := puc 3 D_13) (N := puc 3 N_13) (HW_subc H oz_D6cls_40 oz_D6cls_30) (STC_out HT HE O) (n3) ((congrArg (fun q : Nat => (q : Int)) (mN_13 3 rfl)).trans (en3)) (w3) ((funext (mA_c119 3 rfl)).trans (ew3)) (show inr (x13_4) from j13_0) (show inr (y9_0_4) from q_512 j13_7 r10) (show 0 ≤ (x13_4) ∧ 0 ≤ (y9_0_4) ∧ (y9_0_4) ≤ (n3) ∧ (n3) ≤ 65536 ∧ (x13_4) ≤ 200000 from q_3462 b25 h1 j13_4 j13_7) (fun z104 σ104 F104ₚ A104ₚ Hₚ Oₚ hS104 hA104 pz104_0 pz104_1 => ⟨rretB rfl pz104_0, ?_⟩))
                      refine v_backc (c := c_13) (s := s_13) H oz_D6cls_40 oz_D6cls_30 Hₚ Oₚ (fun F104 A104 H Oₚ eF104 eA104 => ?_)
                      have O := OUT_trans O Oₚ
                      -- Tags.isMark
                      have cF104 : SF oz_D6clsl_13 F F104 := SF_trans (cF_c119) (SF_gluc (ι := oz_D6clsl_3) oz_D6cls_30 hS104 eF104 (by decide +kernel)) (any_sub (lₚ := []) (by decide +kernel))
                      have mF104 := SFm_of cF104 oz_D6cls_42
                      have cA104 : SA oz_D6clsl_6 A A104 := SA_trans (cA_c119) (SA_gluc (ι := oz_D6clsl_3) oz_D6cls_30 hA104 eA104 (by decide +kernel)) (any_subA (lₚ := []) (by decide +kernel))
                      have mA104 := SAm_of cA104 oz_D6cls_43
                      have hmk := ISM_K pz104_1 (by show (ub8 ((w3))) ((x13_4)) = 255; rw [← hq4, hkd]; omega) (by rw [← nvl_ub, ← hq4, ← hz7]; omega)
                      rw [← hq4] at hmk
                      try rw [show (y9_0_4) = (u1_1) by omega] at hmk
                      refine w_ifne (t := 186) rfl rfl (show inr (z104) from q_138 pz104_0) (fun b105 => ?_) (fun b105 => ?_)
                      · have : IMP (((v24 % 256)) = 255) ((tc119_0) = 6 ∧ MKQ (ub8 ((w3))) (q4) ((u1_1))) := by first | exact fun z => absurd z (by omega) | exact fun z => ⟨by omega, by rcases hmk with ⟨x, y⟩ | ⟨x, y⟩; (exact y); (omega)⟩
                        exact hc186  _ _ _ _  (rk_o (lc119_0) rfl rfl) (rk_o (lc119_4) rfl rfl) (rk_o (lc119_5) rfl rfl) (rk_o (lc119_6) rfl rfl) (rk_s) H O (SF_trans (SF_refl) (SF_gluc (ι := oz_D6clsl_3) oz_D6cls_30 hS104 eF104 (by decide +kernel)) (any_sub (lₚ := []) (by decide +kernel))) (SA_trans (SA_refl) (SA_gluc (ι := oz_D6clsl_3) oz_D6cls_30 hA104 eA104 (by decide +kernel)) (any_subA (lₚ := []) (by decide +kernel)))     (show IMP (((v24 % 256)) = 255) ((tc119_0) = 6 ∧ MKQ (ub8 ((w3))) (q4) ((u1_1))) by assumption)
                      · refine Ew_of (pcₚ := 178) (fun _ => x_aload_n rfl (rk_o (lc119_0) rfl rfl)) ?_
                        refine Ew_of (pcₚ := 180) (fun _ => x_bipush (z := 8) rfl (by decide)) ?_
                        refine Ew_of (pcₚ := 182) (fun _ => x_iload rfl (rk_o (lc119_4) rfl rfl)) ?_
                        have r106 : (-2147483648 : Int) ≤ F_13 0 8 ∧ F_13 0 8 ≤ 2147483647 := rngE (show (-2147483648 : Int) ≤ F104 0 8 ∧ F104 0 8 ≤ 2147483647 from H.krg 0 8 (ltn len_V210_Row_Row_oz_D6cls rfl)) (show F104 0 8 = F_13 0 8 from (((show F104 0 8 = F_c119 0 8 from (eF104 0 8))).trans (hS_c119 0 8 rfl)))
                        refine v_inv H (o := 0) rfl rfl rfl rfl rfl rfl (by rfl) (C203 (D := puc 0 D_13) (N := puc 0 N_13) (HW_subc H oz_D6cls_37 oz_D6cls_29) (F_13 0 8) ((((show F104 0 8 = F_c119 0 8 from (eF104 0 8))).trans (hS_c119 0 8 rfl))) (show inr (8) from q_141) (show inr (x13_4) from j13_0) (fun z107 σ107 F107ₚ A107ₚ Hₚ Oₚ hS107 hA107 y107_0_8 ey107_0_8 pz107_0 pz107_1 pz107_2 => ⟨rfl, ?_⟩))
                        refine v_backc (c := c_13) (s := s_13) H oz_D6cls_37 oz_D6cls_29 Hₚ Oₚ (fun F107 A107 H Oₚ eF107 eA107 => ?_)
                        have O := OUT_trans O Oₚ
                        -- Tags.fail
                        have cF107 : SF oz_D6clsl_13 F F107 := SF_trans (cF104) (SF_gluc (ι := oz_D6clsl_8) oz_D6cls_29 hS107 eF107 (by decide +kernel)) (any_sub (lₚ := [(0, 8)]) (by decide +kernel))
                        have mF107 := SFm_of cF107 oz_D6cls_42
                        have cA107 : SA oz_D6clsl_6 A A107 := SA_trans (cA104) (SA_gluc (ι := oz_D6clsl_8) oz_D6cls_29 hA107 eA107 (by decide +kernel)) (any_subA (lₚ := []) (by decide +kernel))
                        have mA107 := SAm_of cA107 oz_D6cls_43
                        have r108 : (-2147483648 : Int) ≤ y107_0_8 ∧ y107_0_8 ≤ 2147483647 := rngE (show (-2147483648 : Int) ≤ F107 0 8 ∧ F107 0 8 ≤ 2147483647 from H.krg 0 8 (ltn len_V210_Row_Row_oz_D6cls rfl)) (show F107 0 8 = y107_0_8 from ((eF107 0 8).trans ey107_0_8))
                        have : IMP (((z107) : Int) ≠ 0) (IT (TUs (ub8 ((w3))) ((u1_1)) ((a3))) (TUe (ub8 ((w3))) ((u1_1)) ((a3))) (0, []) (((z107) : Int), (y107_0_8), [])) := fun z => ITO_e j13_x (TUe_h (by omega) (TUh_m (z := (tc119_0)) ⟨hkd, by omega, by omega, by omega, hz7, by omega⟩ (by omega) (fun q => by first | (have := q.1; omega) | (rcases hmk with ⟨x, y⟩ | ⟨x, y⟩; (omega); (exact y q.2))) (by omega) (by omega)) z)
                        have : IMP (((z107) : Int) = 0) (IT (TUs (ub8 ((w3))) ((u1_1)) ((a3))) (TUe (ub8 ((w3))) ((u1_1)) ((a3))) (0, []) (0, (y107_0_8), sc ((w13_4)) 0 ((y13_2_1)))) := fun z => absurd z (by omega)
                        exact w_ireturn rfl (k (z107) _ _ _ _ _ _ _ H O (cD_13) (cN_13) (cF107) (cA107) ((((((show F107 2 0 = F104 2 0 from (eF107 2 0))).trans ((show F104 2 0 = F_c119 2 0 from (eF104 2 0)))).trans (hS_c119 2 0 rfl))).trans (pm13_4)) (m13_4) (em13_4) (y107_0_8) (((eF107 0 8).trans ey107_0_8)) (y13_2_1) ((((((show F107 2 1 = F104 2 1 from (eF107 2 1))).trans ((show F104 2 1 = F_c119 2 1 from (eF104 2 1)))).trans (hS_c119 2 1 rfl)).trans (ey13_2_1))) (y13_2_2) ((((((show F107 2 2 = F104 2 2 from (eF107 2 2))).trans ((show F104 2 2 = F_c119 2 2 from (eF104 2 2)))).trans (hS_c119 2 2 rfl)).trans (ey13_2_2))) (w13_4) (((show A107 4 = A104 4 from (eA107 4))).trans (((show A104 4 = A_c119 4 from (eA104 4))).trans ((funext (hA_c119 4 rfl)).trans (ew13_4)))) (show inr (z107) from pz107_0) (show 0 ≤ (z107) ∧ (z107) ≤ 12 from q_3439 pz107_1) (show 0 ≤ (y13_2_1) ∧ (y13_2_1) ≤ (m13_4) ∧ (m13_4) ≤ 65536 from j13_5) (show (y13_2_2) = 0 from j13_8) (show IMP ((z107) ≠ 0) (IT (TUs (ub8 ((w3))) ((u1_1)) (a3)) (TUe (ub8 ((w3))) ((u1_1)) (a3)) (0, []) ((z107), (y107_0_8), [])) by assumption) (show IMP ((z107) = 0) (IT (TUs (ub8 ((w3))) ((u1_1)) (a3)) (TUe (ub8 ((w3))) ((u1_1)) (a3)) (0, []) (0, (y107_0_8), sc ((w13_4)) 0 ((y13_2_1)))) by assumption) (show (z107) ≠ 0 ∨ (y107_0_8) = (u1_1) from q_3438 pz107_1))
                · have hz7b : (y9_0_4) < (x13_4) + 4 ∨ (tc119_0) = nvl (ub8 ((w3))) (q4 + 1) 3 := q_3441 jc119_2
                  refine Ew_of (pcₚ := 136) (fun _ => x_aload_n rfl (rk_o (lc119_0) rfl rfl)) ?_
                  refine Ew_of (pcₚ := 138) (fun _ => x_bipush (z := 7) rfl (by decide)) ?_
                  refine Ew_of (pcₚ := 139) (fun _ => x_aload_n rfl (rk_o (lc119_0) rfl rfl)) ?_
                  refine v_g H (o := 0) (v := I (y9_0_4)) rfl rfl rfl rfl rfl (congrArg (fun z : Int => I z) ((((hS_c119 0 4 rfl).trans (hS_13 0 4 rfl)).trans ((eF9 0 4).trans ey9_0_4)) : F_c119 0 4 = y9_0_4)) ?_
                  have r109 : (-2147483648 : Int) ≤ F_13 0 8 ∧ F_13 0 8 ≤ 2147483647 := rngE (show (-2147483648 : Int) ≤ F_c119 0 8 ∧ F_c119 0 8 ≤ 2147483647 from H.krg 0 8 (ltn len_V210_Row_Row_oz_D6cls rfl)) (show F_c119 0 8 = F_13 0 8 from (hS_c119 0 8 rfl))
                  refine v_inv H (o := 0) rfl rfl rfl rfl rfl rfl (by rfl) (C203 (D := puc 0 D_13) (N := puc 0 N_13) (HW_subc H oz_D6cls_37 oz_D6cls_29) (F_13 0 8) ((hS_c119 0 8 rfl)) (show inr (7) from q_597) (show inr (y9_0_4) from q_512 j13_7 r10) (fun z110 σ110 F110ₚ A110ₚ Hₚ Oₚ hS110 hA110 y110_0_8 ey110_0_8 pz110_0 pz110_1 pz110_2 => ⟨rfl, ?_⟩))
                  refine v_backc (c := c_13) (s := s_13) H oz_D6cls_37 oz_D6cls_29 Hₚ Oₚ (fun F110 A110 H Oₚ eF110 eA110 => ?_)
                  have O := OUT_trans O Oₚ
                  -- Tags.fail
                  have cF110 : SF oz_D6clsl_13 F F110 := SF_trans (cF_c119) (SF_gluc (ι := oz_D6clsl_8) oz_D6cls_29 hS110 eF110 (by decide +kernel)) (any_sub (lₚ := [(0, 8)]) (by decide +kernel))
                  have mF110 := SFm_of cF110 oz_D6cls_42
                  have cA110 : SA oz_D6clsl_6 A A110 := SA_trans (cA_c119) (SA_gluc (ι := oz_D6clsl_8) oz_D6cls_29 hA110 eA110 (by decide +kernel)) (any_subA (lₚ := []) (by decide +kernel))
                  have mA110 := SAm_of cA110 oz_D6cls_43
                  have r111 : (-2147483648 : Int) ≤ y110_0_8 ∧ y110_0_8 ≤ 2147483647 := rngE (show (-2147483648 : Int) ≤ F110 0 8 ∧ F110 0 8 ≤ 2147483647 from H.krg 0 8 (ltn len_V210_Row_Row_oz_D6cls rfl)) (show F110 0 8 = y110_0_8 from ((eF110 0 8).trans ey110_0_8))
                  have : IMP (((z110) : Int) ≠ 0) (IT (TUs (ub8 ((w3))) ((u1_1)) ((a3))) (TUe (ub8 ((w3))) ((u1_1)) ((a3))) (0, []) (((z110) : Int), (y110_0_8), [])) := fun z => ITO_e j13_x ((Decidable.em ((y9_0_4) < (x13_4) + 4)).elim (fun w => TUe_h (z := 0) (by omega) (TUh_7 hkd (by omega) (by omega) (by omega) (by omega) (by omega)) z) (fun w => TUe_h (by omega) (TUh_z hkd (by omega) (by omega) (by omega) (show (tc119_0) = nvl (ub8 ((w3))) (q4 + 1) 3 by omega) (by omega) (by omega) (by omega)) z))
                  have : IMP (((z110) : Int) = 0) (IT (TUs (ub8 ((w3))) ((u1_1)) ((a3))) (TUe (ub8 ((w3))) ((u1_1)) ((a3))) (0, []) (0, (y110_0_8), sc ((w13_4)) 0 ((y13_2_1)))) := fun z => absurd z (by omega)
                  exact w_ireturn rfl (k (z110) _ _ _ _ _ _ _ H O (cD_13) (cN_13) (cF110) (cA110) (((((show F110 2 0 = F_c119 2 0 from (eF110 2 0))).trans (hS_c119 2 0 rfl))).trans (pm13_4)) (m13_4) (em13_4) (y110_0_8) (((eF110 0 8).trans ey110_0_8)) (y13_2_1) (((((show F110 2 1 = F_c119 2 1 from (eF110 2 1))).trans (hS_c119 2 1 rfl)).trans (ey13_2_1))) (y13_2_2) (((((show F110 2 2 = F_c119 2 2 from (eF110 2 2))).trans (hS_c119 2 2 rfl)).trans (ey13_2_2))) (w13_4) (((show A110 4 = A_c119 4 from (eA110 4))).trans ((funext (hA_c119 4 rfl)).trans (ew13_4))) (show inr (z110) from pz110_0) (show 0 ≤ (z110) ∧ (z110) ≤ 12 from q_3443 pz110_1) (show 0 ≤ (y13_2_1) ∧ (y13_2_1) ≤ (m13_4) ∧ (m13_4) ≤ 65536 from j13_5) (show (y13_2_2) = 0 from j13_8) (show IMP ((z110) ≠ 0) (IT (TUs (ub8 ((w3))) ((u1_1)) (a3)) (TUe (ub8 ((w3))) ((u1_1)) (a3)) (0, []) ((z110), (y110_0_8), [])) by assumption) (show IMP ((z110) = 0) (IT (TUs (ub8 ((w3))) ((u1_1)) (a3)) (TUe (ub8 ((w3))) ((u1_1)) (a3)) (0, []) (0, (y110_0_8), sc ((w13_4)) 0 ((y13_2_1)))) by assumption) (show (z110) ≠ 0 ∨ (y110_0_8) = (u1_1) from q_3442 pz110_1))
              refine Ew_of (pcₚ := 89) (fun _ => x_aload_n rfl (rk_o (l13_0) rfl rfl)) ?_
              refine v_g H (o := 0) (v := I (y9_0_4)) rfl rfl rfl rfl rfl (congrArg (fun z : Int => I z) (((hS_13 0 4 rfl).trans ((eF9 0 4).trans ey9_0_4)) : F_13 0 4 = y9_0_4)) ?_
              refine Ew_of (pcₚ := 94) (fun _ => x_iload rfl (rk_o (l13_4) rfl rfl)) ?_
              refine w_isub rfl ?_
              refine Ew_of (pcₚ := 96) (fun _ => x_iconst rfl) ?_
              refine w_icmpge (t := 106) rfl rfl (show inr ((y9_0_4 - x13_4)) from q_3463 b20 b25 r10) (show inr (4) from q_216) (fun b112 => ?_) (fun b112 => ?_)
              · refine Ew_of (pcₚ := 107) (fun _ => x_aload_n rfl (rk_o (l13_0) rfl rfl)) ?_
                refine v_g H (o := 0) (v := .ref (D_13 3)) rfl rfl rfl rfl rfl (vrf (pf_13_0_3)) ?_
                refine Ew_of (pcₚ := 112) (fun _ => x_iload rfl (rk_o (l13_4) rfl rfl)) ?_
                refine Ew_of (pcₚ := 113) (fun _ => x_iconst rfl) ?_
                refine w_iadd rfl ?_
                refine Ew_of (pcₚ := 115) (fun _ => x_iconst rfl) ?_
                refine w_stat25 rfl rfl (by rfl) (C42_Br (D := puc 3 D_13) (N := puc 3 N_13) (HW_subc H oz_D6cls_41 oz_D6cls_30) (n3) ((congrArg (fun q : Nat => (q : Int)) (mN_13 3 rfl)).trans (en3)) (w3) ((funext (mA_13 3 rfl)).trans (ew3)) (show inr ((x13_4 + 1)) from q_1817 b25) (show inr (3) from q_246) (show (3) ≤ 0 ∨ 0 ≤ ((x13_4 + 1)) ∧ ((x13_4 + 1)) + (3) ≤ (n3) from q_3464 b112 b25 j13_7) (show 0 ≤ (3) ∧ (3) ≤ 8 from q_2174) (fun z113 σ113 F113ₚ A113ₚ Hₚ Oₚ hS113 hA113 pz113_0 pz113_1 pz113_2 => ⟨rfl, ?_⟩))
                refine v_backc (c := c_13) (s := s_13) H oz_D6cls_41 oz_D6cls_30 Hₚ Oₚ (fun F113 A113 H Oₚ eF113 eA113 => ?_)
                have O := OUT_trans O Oₚ
                -- PackHouse.number
                have cF113 : SF oz_D6clsl_13 F F113 := SF_trans (cF_13) (SF_gluc (ι := oz_D6clsl_3) oz_D6cls_30 hS113 eF113 (by decide +kernel)) (any_sub (lₚ := []) (by decide +kernel))
                have mF113 := SFm_of cF113 oz_D6cls_42
                have cA113 : SA oz_D6clsl_6 A A113 := SA_trans (cA_13) (SA_gluc (ι := oz_D6clsl_3) oz_D6cls_30 hA113 eA113 (by decide +kernel)) (any_subA (lₚ := []) (by decide +kernel))
                have mA113 := SAm_of cA113 oz_D6cls_43
                have hb3 := nb3 pz113_1
                have hn3 : (z113) = nvl (ub8 ((w3))) (q4 + 1) 3 := by rw [nvl_ub, hq4]; exact nmb_nn pz113_2 (by omega) pz113_0
                refine w_l2i rfl ?_
                exact hc119 (z113) _ _ _ _  (rk_o (l13_0) rfl rfl) (rk_o (l13_4) rfl rfl) (rk_o (l13_5) rfl rfl) (rk_s) H O (SF_trans (SF_refl) (SF_gluc (ι := oz_D6clsl_3) oz_D6cls_30 hS113 eF113 (by decide +kernel)) (any_sub (lₚ := []) (by decide +kernel))) (SA_trans (SA_refl) (SA_gluc (ι := oz_D6clsl_3) oz_D6cls_30 hA113 eA113 (by decide +kernel)) (any_subA (lₚ := []) (by decide +kernel)))     (show inr (z113) by omega) (show 0 ≤ (z113) ∧ (z113) ≤ 16777215 by omega) (show (y9_0_4) < (x13_4) + 4 ∧ (z113) = (y9_0_4) ∨ (x13_4) + 4 ≤ (y9_0_4) ∧ (z113) = nvl (ub8 ((w3))) (q4 + 1) 3 from q_3446 b112 hn3)
              · refine Ew_of (pcₚ := 100) (fun _ => x_aload_n rfl (rk_o (l13_0) rfl rfl)) ?_
                refine v_g H (o := 0) (v := I (y9_0_4)) rfl rfl rfl rfl rfl (congrArg (fun z : Int => I z) (((hS_13 0 4 rfl).trans ((eF9 0 4).trans ey9_0_4)) : F_13 0 4 = y9_0_4)) ?_
                refine Ew_of (pcₚ := 119) (fun _ => x_goto rfl rfl) ?_
                exact hc119 (y9_0_4) _ _ _ _  (rk_o (l13_0) rfl rfl) (rk_o (l13_4) rfl rfl) (rk_o (l13_5) rfl rfl) (rk_s) H O (SF_refl) (SA_refl)     (show inr (y9_0_4) from q_512 j13_7 r10) (show 0 ≤ (y9_0_4) ∧ (y9_0_4) ≤ 16777215 from q_3465 b112 b25 j13_7) (show (y9_0_4) < (x13_4) + 4 ∧ (y9_0_4) = (y9_0_4) ∨ (x13_4) + 4 ≤ (y9_0_4) ∧ (y9_0_4) = nvl (ub8 ((w3))) (q4 + 1) 3 from q_3447 b112)
            · refine Ew_of (pcₚ := 74) (fun _ => x_iload rfl rk_s) ?_
              refine Ew_of (pcₚ := 76) (fun _ => x_bipush (z := 127) rfl (by decide)) ?_
              refine w_icmpgt (t := 88) rfl rfl (show inr ((v24 % 256)) from q_3466 b85 b86) (show inr (127) from q_1119) (fun b114 => ?_) (fun b114 => ?_)
              · have hc119 : ∀ (tc119_0 : Int), ∀ (ls : rO) (σ : rS) (F_c119 : hF) (A_c119 : hA) , rlook ls 0 = some (.ref (D_13 0)) → rlook ls 4 = some (I (x13_4)) → rlook ls 5 = some (I (x13_5)) → rlook ls 6 = some (I ((v24 % 256))) → HW V210_Row_Row σ D_13 N_13 F_c119 A_c119 → OUT (V210_Row_Row).length D N σE c s D_13 N_13 σ c_13 s_13 → SF [] F_13 F_c119 → SA [] A_13 A_c119 → (inr (tc119_0)) → (0 ≤ (tc119_0) ∧ (tc119_0) ≤ 16777215) → ((y9_0_4) < (x13_4) + 4 ∧ (tc119_0) = (y9_0_4) ∨ (x13_4) + 4 ≤ (y9_0_4) ∧ (tc119_0) = nvl (ub8 ((w3))) (q4 + 1) 3) → Ew 210 (d + 5) 119 ls [I (tc119_0)] σ c_13 s_13 Q := by
                 as_aux_lemma =>
                  intro tc119_0 ls σ F_c119 A_c119  lc119_0 lc119_4 lc119_5 lc119_6 H O hS_c119 hA_c119     jc119_0 jc119_1 jc119_2
                  have cF_c119 : SF oz_D6clsl_13 F F_c119 := SF_trans (cF_13) hS_c119 (any_sub (by decide +kernel))
                  have mF_c119 := SFm_of cF_c119 oz_D6cls_42
                  have cA_c119 : SA oz_D6clsl_6 A A_c119 := SA_trans (cA_13) hA_c119 (any_subA (by decide +kernel))
                  have mA_c119 := SAm_of cA_c119 oz_D6cls_43
                  refine Ew_of (pcₚ := 121) (fun _ => x_istore rfl) ?_
                  refine Ew_of (pcₚ := 122) (fun _ => x_aload_n rfl (rk_o (lc119_0) rfl rfl)) ?_
                  refine v_g H (o := 0) (v := I (y9_0_4)) rfl rfl rfl rfl rfl (congrArg (fun z : Int => I z) ((((hS_c119 0 4 rfl).trans (hS_13 0 4 rfl)).trans ((eF9 0 4).trans ey9_0_4)) : F_c119 0 4 = y9_0_4)) ?_
                  refine Ew_of (pcₚ := 127) (fun _ => x_iload rfl (rk_o (lc119_4) rfl rfl)) ?_
                  refine w_isub rfl ?_
                  refine Ew_of (pcₚ := 129) (fun _ => x_iconst rfl) ?_
                  refine w_isub rfl ?_
                  refine Ew_of (pcₚ := 132) (fun _ => x_iload rfl rk_s) ?_
                  refine w_icmpge (t := 146) rfl rfl (show inr (((y9_0_4 - x13_4) - 4)) from q_3456 b20 b25 r10) (show inr (tc119_0) from jc119_0) (fun b115 => ?_) (fun b115 => ?_)
                  · have hz7 : (tc119_0) = nvl (ub8 ((w3))) (q4 + 1) 3 := q_3467 b115 b25 jc119_2
                    refine Ew_of (pcₚ := 148) (fun _ => x_iload rfl (rk_o (lc119_6) rfl rfl)) ?_
                    have hc186 : ∀ (ls : rO) (σ : rS) (F_c186 : hF) (A_c186 : hA) , rlook ls 0 = some (.ref (D_13 0)) → rlook ls 4 = some (I (x13_4)) → rlook ls 5 = some (I (x13_5)) → rlook ls 6 = some (I ((v24 % 256))) → rlook ls 7 = some (I (tc119_0)) → HW V210_Row_Row σ D_13 N_13 F_c186 A_c186 → OUT (V210_Row_Row).length D N σE c s D_13 N_13 σ c_13 s_13 → SF [] F_c119 F_c186 → SA [] A_c119 A_c186 → (IMP (((v24 % 256)) = 255) ((tc119_0) = 6 ∧ MKQ (ub8 ((w3))) (q4) ((u1_1)))) → Ew 210 (d + 5) 186 ls [] σ c_13 s_13 Q := by
                     as_aux_lemma =>
                      intro  ls σ F_c186 A_c186  lc186_0 lc186_4 lc186_5 lc186_6 lc186_7 H O hS_c186 hA_c186     jc186_0
                      have cF_c186 : SF oz_D6clsl_13 F F_c186 := SF_trans (cF_c119) hS_c186 (any_sub (by decide +kernel))
                      have mF_c186 := SFm_of cF_c186 oz_D6cls_42
                      have cA_c186 : SA oz_D6clsl_6 A A_c186 := SA_trans (cA_c119) hA_c186 (any_subA (by decide +kernel))
                      have mA_c186 := SAm_of cA_c186 oz_D6cls_43
                      have k186 : IMP (((v24 % 256)) = 255) ((tc119_0) = 6 ∧ MKQ (ub8 ((w3))) (q4) ((u1_1))) := jc186_0
                      have hTg : TUg (ub8 ((w3))) ((u1_1)) (q4) (((v24 % 256))) ((tc119_0)) := ⟨hkd, by omega, by omega, by omega, hz7, by omega⟩
                      obtain ⟨q6, hq6⟩ : ∃ q : Int, q = ((v24 % 256)) := ⟨_, rfl⟩
                      refine Ew_of (pcₚ := 188) (fun _ => x_iload rfl lc186_6) ?_
                      have hc212 : ∀ (ls : rO) (σ : rS) (D_c212 N_c212 : Nat → Nat) (c_c212 s_c212 : Nat) (F_c212 : hF) (A_c212 : hA) , rlook ls 0 = some (.ref (D_c212 0)) → rlook ls 4 = some (I (x13_4)) → rlook ls 5 = some (I (x13_5)) → rlook ls 7 = some (I (tc119_0)) → HW V210_Row_Row σ D_c212 N_c212 F_c212 A_c212 → OUT (V210_Row_Row).length D N σE c s D_c212 N_c212 σ c_c212 s_c212 → SD [4] D_13 D_c212 → SD [4] N_13 N_c212 → SF [(0, 7), (0, 8), (2, 0), (2, 1), (2, 2)] F_c186 F_c212 → SA [4] A_c186 A_c212 → F_c212 2 0 = (D_c212 4 : Int) → ∀ mc212_4 : Int, (N_c212 4 : Int) = mc212_4 → ∀ yc212_2_1 : Int, F_c212 2 1 = yc212_2_1 → ∀ yc212_2_2 : Int, F_c212 2 2 = yc212_2_2 → ∀ wc212_4 : Int → Int, A_c212 4 = wc212_4 → (0 ≤ (x13_4) ∧ (x13_4) ≤ (y9_0_4)) → (0 ≤ (yc212_2_1) ∧ (yc212_2_1) ≤ (mc212_4) ∧ (mc212_4) ≤ 65536) → ((yc212_2_1) ≤ (a3)) → (0 ≤ (y9_0_4) ∧ (y9_0_4) ≤ (n3)) → ((yc212_2_2) = 0) → ((y9_0_6) = (a3) ∧ (y9_0_4) = (u1_1)) → (TUs (ub8 ((w3))) ((u1_1)) ((a3)) (q4, CX) (q4 + 4 + (tc119_0), sc ((wc212_4)) 0 ((yc212_2_1)))) → Ew 210 (d + 5) 212 ls [] σ c_c212 s_c212 Q := by
                       as_aux_lemma =>
                        intro  ls σ D_c212 N_c212 c_c212 s_c212 F_c212 A_c212  lc212_0 lc212_4 lc212_5 lc212_7 H O hD_c212 hN_c212 hS_c212 hA_c212 pmc212_4 mc212_4 emc212_4 yc212_2_1 eyc212_2_1 yc212_2_2 eyc212_2_2 wc212_4 ewc212_4 jc212_0 jc212_1 jc212_2 jc212_3 jc212_4 jc212_5 jc212_6
                        have cF_c212 : SF oz_D6clsl_13 F F_c212 := SF_trans (cF_c186) hS_c212 (any_sub (by decide +kernel))
                        have mF_c212 := SFm_of cF_c212 oz_D6cls_42
                        have cA_c212 : SA oz_D6clsl_6 A A_c212 := SA_trans (cA_c186) hA_c212 (any_subA (by decide +kernel))
                        have mA_c212 := SAm_of cA_c212 oz_D6cls_43
                        have cD_c212 : SD oz_D6clsl_6 D D_c212 := SD_trans (cD_13) hD_c212 (any_subA (by decide +kernel))
                        have mD_c212 := SDm_of cD_c212 oz_D6cls_43
                        have cN_c212 : SD oz_D6clsl_6 N N_c212 := SD_trans (cN_13) hN_c212 (any_subA (by decide +kernel))
                        have mN_c212 := SDm_of cN_c212 oz_D6cls_43
                        have pf_c212_0_3 : F_c212 0 3 = (D_c212 3 : Int) := (hS_c212 0 3 rfl).trans (((((hS_c186 0 3 rfl).trans (hS_c119 0 3 rfl))).trans (pf_13_0_3)).trans (congrArg (fun q : Nat => (q : Int)) (hD_c212 3 rfl).symm))
                        have pf_c212_0_5 : F_c212 0 5 = (D_c212 2 : Int) := (hS_c212 0 5 rfl).trans (((((hS_c186 0 5 rfl).trans (hS_c119 0 5 rfl))).trans (pf_13_0_5)).trans (congrArg (fun q : Nat => (q : Int)) (hD_c212 2 rfl).symm))
                        have r116 : (0 : Int) ≤ mc212_4 ∧ mc212_4 ≤ 1000000 := nleE (H.nle 4 (ltn len_V210_Row_Row_oz_D6cls rfl)) (show (N_c212 4 : Int) = mc212_4 from emc212_4)
                        have r117 : (-2147483648 : Int) ≤ yc212_2_1 ∧ yc212_2_1 ≤ 2147483647 := rngE (show (-2147483648 : Int) ≤ F_c212 2 1 ∧ F_c212 2 1 ≤ 2147483647 from H.krg 2 1 (ltn len_V210_Row_Row_oz_D6cls rfl)) (show F_c212 2 1 = yc212_2_1 from (eyc212_2_1))
                        have r118 : (0 : Int) ≤ yc212_2_2 ∧ yc212_2_2 ≤ 1 := rngE (show (0 : Int) ≤ F_c212 2 2 ∧ F_c212 2 2 ≤ 1 from H.krg 2 2 (ltn len_V210_Row_Row_oz_D6cls rfl)) (show F_c212 2 2 = yc212_2_2 from (eyc212_2_2))
                        have k212 : TUs (ub8 ((w3))) ((u1_1)) ((a3)) (q4, CX) (q4 + 4 + (tc119_0), sc ((wc212_4)) 0 ((yc212_2_1))) := by assumption
                        refine Ew_of (pcₚ := 214) (fun _ => x_iload rfl lc212_4) ?_
                        refine Ew_of (pcₚ := 215) (fun _ => x_iconst rfl) ?_
                        refine Ew_of (pcₚ := 217) (fun _ => x_iload rfl lc212_7) ?_
                        refine w_iadd rfl ?_
                        refine w_iadd rfl ?_
                        have : ITO (TUs (ub8 ((w3))) ((u1_1)) ((a3))) (TUe (ub8 ((w3))) ((u1_1)) ((a3))) (0, []) ((x13_4) + (4 + (tc119_0)), sc ((wc212_4)) 0 ((yc212_2_1))) := by have h := ITO_s j13_x k212; rw [show q4 + 4 + (tc119_0) = (x13_4) + (4 + (tc119_0)) by omega] at h; exact h
                        refine Ew_of (pcₚ := 221) (fun _ => x_istore rfl) ?_
                        refine Ew_of (pcₚ := 224) (fun _ => x_iinc (len := 3) rfl (rk_o (lc212_5) rfl rfl)) ?_
                        refine Ew_of (pcₚ := 13) (fun _ => x_goto rfl rfl) ?_
                        exact ih13 _ (msE hm13 q_16 (q_17 b16)) _ _ _ _ _ _ _ _ ((x13_4 + (4 + tc119_0))) ((x13_5 + 1)) (rk_o (rk_o (lc212_0) rfl rfl) rfl rfl) (rk_o (rk_s) rfl rfl) (rk_s) H O (SD_trans (hD_13) hD_c212 (any_subA (by decide +kernel))) (SD_trans (hN_13) hN_c212 (any_subA (by decide +kernel))) (SF_trans (SF_trans (SF_trans (hS_13) hS_c119 (any_sub (by decide +kernel))) hS_c186 (any_sub (by decide +kernel))) hS_c212 (any_sub (by decide +kernel))) (SA_trans (SA_trans (SA_trans (hA_13) hA_c119 (any_subA (by decide +kernel))) hA_c186 (any_subA (by decide +kernel))) hA_c212 (any_subA (by decide +kernel))) (pmc212_4) (mc212_4) (emc212_4) (yc212_2_1) ((eyc212_2_1)) (yc212_2_2) ((eyc212_2_2)) (wc212_4) (ewc212_4) (show inr ((x13_4 + (4 + tc119_0))) from q_3459 b25 jc119_1 jc212_0) (show inr ((x13_5 + 1)) from q_3458 b25 j13_10 j13_2) (show (0) ≤ ((x13_5 + 1)) from q_14 j13_2) (show ((x13_5 + 1)) ≤ (0) ∨ ((x13_5 + 1)) ≤ ((y9_0_4)) from q_13 b16) (show 0 ≤ ((x13_4 + (4 + tc119_0))) ∧ ((x13_4 + (4 + tc119_0))) ≤ (y9_0_4) from q_3432 b115 jc119_1 jc212_0) (show 0 ≤ (yc212_2_1) ∧ (yc212_2_1) ≤ (mc212_4) ∧ (mc212_4) ≤ 65536 from jc212_1) (show (yc212_2_1) ≤ (a3) from jc212_2) (show 0 ≤ (y9_0_4) ∧ (y9_0_4) ≤ (n3) from jc212_3) (show (yc212_2_2) = 0 from jc212_4) (show (y9_0_6) = (a3) ∧ (y9_0_4) = (u1_1) from jc212_5) (show ((x13_5 + 1)) ≤ ((x13_4 + (4 + tc119_0))) from q_3431 j13_10 jc119_1) (show ITO (TUs (ub8 ((w3))) ((u1_1)) ((a3))) (TUe (ub8 ((w3))) ((u1_1)) ((a3))) (0, []) (((x13_4 + (4 + tc119_0))), sc ((wc212_4)) 0 ((yc212_2_1))) by assumption) rfl
                      refine Ew_of (pcₚ := 189) (fun _ => x_iconst rfl) ?_
                      refine w_icmpge (t := 212) rfl rfl (show inr ((v24 % 256)) from q_3468 b114 b85) (show inr (2) from q_122) (fun b119 => ?_) (fun b119 => ?_)
                      · have : TUs (ub8 ((w3))) ((u1_1)) ((a3)) (q4, CX) (q4 + 4 + (tc119_0), sc ((w13_4)) 0 ((y13_2_1))) := by first | (rw [← hCX]; exact TUs_n (k := q6) (by omega) (TUh_0 (pl := 0) (by rw [hq6]; exact hTg) (by rcases (show q6 = 255 ∨ q6 ≠ 255 by omega) with z | z; (exact .inl ⟨z, (k186 (by omega)).1, (k186 (by omega)).2⟩); (exact .inr (.inr ⟨by omega, z⟩))) rfl) (by omega) rfl) | (obtain ⟨x, pl0, X, y, w1, w2⟩ := hcy (by omega); rw [← hCX, ← hq4] at y; rw [← hq4] at w1; rw [← hCX] at w2; exact TUs_y (by omega) (TUh_0 (pl := 0) hTg (.inr (.inl ⟨by omega, x⟩)) rfl) (by omega) y w1 rfl w2)
                        exact hc212  _ _ _ _ _ _ _ _  (lc186_0) (lc186_4) (lc186_5) (lc186_7) H O (SD_refl) (SD_refl) (SF_refl) (SA_refl) ((((hS_c186 2 0 rfl).trans (hS_c119 2 0 rfl))).trans (pm13_4)) (m13_4) (em13_4) (y13_2_1) ((((hS_c186 2 1 rfl).trans (hS_c119 2 1 rfl)).trans (ey13_2_1))) (y13_2_2) ((((hS_c186 2 2 rfl).trans (hS_c119 2 2 rfl)).trans (ey13_2_2))) (w13_4) ((funext (hA_c186 4 rfl)).trans ((funext (hA_c119 4 rfl)).trans (ew13_4))) (show 0 ≤ (x13_4) ∧ (x13_4) ≤ (y9_0_4) from j13_4) (show 0 ≤ (y13_2_1) ∧ (y13_2_1) ≤ (m13_4) ∧ (m13_4) ≤ 65536 from j13_5) (show (y13_2_1) ≤ (a3) from j13_6) (show 0 ≤ (y9_0_4) ∧ (y9_0_4) ≤ (n3) from j13_7) (show (y13_2_2) = 0 from j13_8) (show (y9_0_6) = (a3) ∧ (y9_0_4) = (u1_1) from j13_9) (show TUs (ub8 ((w3))) ((u1_1)) ((a3)) (q4, CX) (q4 + 4 + (tc119_0), sc ((w13_4)) 0 ((y13_2_1))) by assumption)
                      · refine Ew_of (pcₚ := 193) (fun _ => x_aload_n rfl lc186_0) ?_
                        refine Ew_of (pcₚ := 195) (fun _ => x_iload rfl lc186_4) ?_
                        refine Ew_of (pcₚ := 197) (fun _ => x_iload rfl lc186_6) ?_
                        refine Ew_of (pcₚ := 199) (fun _ => x_iload rfl lc186_7) ?_
                        have r120 : (-2147483648 : Int) ≤ F_13 0 8 ∧ F_13 0 8 ≤ 2147483647 := rngE (show (-2147483648 : Int) ≤ F_c186 0 8 ∧ F_c186 0 8 ≤ 2147483647 from H.krg 0 8 (ltn len_V210_Row_Row_oz_D6cls rfl)) (show F_c186 0 8 = F_13 0 8 from ((hS_c186 0 8 rfl).trans (hS_c119 0 8 rfl)))
                        refine v_inv H (o := 0) rfl rfl rfl rfl rfl rfl (by rfl) (C211 (D := puc 537396736 D_13) (N := puc 537396736 N_13) (HW_subc H oz_D6cls_38 oz_D6cls_44) (STC_out HT HE O) ((((hS_c186 0 3 rfl).trans (hS_c119 0 3 rfl))).trans (pf_13_0_3)) ((((hS_c186 0 5 rfl).trans (hS_c119 0 5 rfl))).trans (pf_13_0_5)) ((((hS_c186 2 0 rfl).trans (hS_c119 2 0 rfl))).trans (pm13_4)) (n3) ((congrArg (fun q : Nat => (q : Int)) (mN_13 3 rfl)).trans (en3)) (m13_4) (em13_4) (y9_0_6) (((((hS_c186 0 6 rfl).trans (hS_c119 0 6 rfl)).trans (hS_13 0 6 rfl)).trans ((eF9 0 6).trans ey9_0_6))) (F_13 0 8) (((hS_c186 0 8 rfl).trans (hS_c119 0 8 rfl))) (y13_2_1) ((((hS_c186 2 1 rfl).trans (hS_c119 2 1 rfl)).trans (ey13_2_1))) (y13_2_2) ((((hS_c186 2 2 rfl).trans (hS_c119 2 2 rfl)).trans (ey13_2_2))) (w3) ((funext (mA_c186 3 rfl)).trans (ew3)) (w13_4) ((funext (hA_c186 4 rfl)).trans ((funext (hA_c119 4 rfl)).trans (ew13_4))) (show inr (x13_4) from j13_0) (show inr ((v24 % 256)) from q_3452 b114 b119) (show inr (tc119_0) from jc119_0) (show 0 ≤ (x13_4) ∧ 0 ≤ (tc119_0) ∧ (x13_4) + 4 + (tc119_0) ≤ (n3) ∧ (n3) ≤ 65536 from q_3437 b115 h1 j13_4 j13_7 jc119_1) (show 0 ≤ (y13_2_1) ∧ (y13_2_1) ≤ (m13_4) ∧ (m13_4) ≤ 65536 from j13_5) (show 0 ≤ (y9_0_6) ∧ (y9_0_6) ≤ 65536 ∧ (y13_2_1) ≤ (y9_0_6) from q_3436 h3 j13_6 j13_9) (show (y13_2_2) = 0 from j13_8) (show 0 ≤ ((v24 % 256)) ∧ ((v24 % 256)) ≤ 1 from q_3451 b114 b119) (fun z121 σ121 D121ₚ N121ₚ F121ₚ A121ₚ c121 s121 Hₚ Oₚ hD121 hN121 hS121 hA121 pm121_3 m121_3 em121_3 y121_0_8 ey121_0_8 y121_2_1 ey121_2_1 y121_2_2 ey121_2_2 w121_3 ew121_3 pz121_0 pz121_1 pz121_2 pz121_3 pz121_4 pz121_5 pz121_6 => ⟨rfl, ?_⟩))
                        refine v_backMc (c := c_13) (s := s_13) H oz_D6cls_38 oz_D6cls_44 Hₚ Oₚ hD121 oz_D6cls_39 (fun D121 N121 F121 A121 H Oₚ eD121 eN121 eF121 eA121 => ?_)
                        have O := OUT_trans O Oₚ
                        -- Tags.unpackChunk
                        have cF121 : SF oz_D6clsl_13 F F121 := SF_trans (cF_c186) (SF_gluc (ι := oz_D6clsl_14) oz_D6cls_44 hS121 eF121 (by decide +kernel)) (any_sub (lₚ := [(0, 7), (0, 8), (2, 0), (2, 1), (2, 2)]) (by decide +kernel))
                        have mF121 := SFm_of cF121 oz_D6cls_42
                        have cA121 : SA oz_D6clsl_6 A A121 := SA_trans (cA_c186) (SA_gluc (ι := oz_D6clsl_14) oz_D6cls_44 hA121 eA121 (by decide +kernel)) (any_subA (lₚ := [4]) (by decide +kernel))
                        have mA121 := SAm_of cA121 oz_D6cls_43
                        have cD121 : SD oz_D6clsl_6 D D121 := SD_trans (cD_13) (SD_gluc (ι := oz_D6clsl_14) oz_D6cls_44 hD121 eD121 (by decide +kernel)) (any_subA (lₚ := [4]) (by decide +kernel))
                        have mD121 := SDm_of cD121 oz_D6cls_43
                        have cN121 : SD oz_D6clsl_6 N N121 := SD_trans (cN_13) (SD_gluc (ι := oz_D6clsl_14) oz_D6cls_44 hN121 eN121 (by decide +kernel)) (any_subA (lₚ := [4]) (by decide +kernel))
                        have mN121 := SDm_of cN121 oz_D6cls_43
                        have pf121_0_3 : F121 0 3 = (D121 3 : Int) := ((show F121 0 3 = F_c186 0 3 from (eF121 0 3).trans (hS121 0 3 rfl))).trans (((((hS_c186 0 3 rfl).trans (hS_c119 0 3 rfl))).trans (pf_13_0_3)).trans (congrArg (fun q : Nat => (q : Int)) ((show D121 3 = D_13 3 from (eD121 3).trans (hD121 1 rfl))).symm))
                        have pf121_0_5 : F121 0 5 = (D121 2 : Int) := ((show F121 0 5 = F_c186 0 5 from (eF121 0 5).trans (hS121 0 5 rfl))).trans (((((hS_c186 0 5 rfl).trans (hS_c119 0 5 rfl))).trans (pf_13_0_5)).trans (congrArg (fun q : Nat => (q : Int)) ((show D121 2 = D_13 2 from (eD121 2).trans (hD121 2 rfl))).symm))
                        have pf121_2_0 : F121 2 0 = (D121 4 : Int) := (eF121 2 0).trans (pm121_3.trans (congrArg (fun q : Nat => (q : Int)) (eD121 4).symm))
                        have r122 : (0 : Int) ≤ m121_3 ∧ m121_3 ≤ 1000000 := nleE (H.nle 4 (ltn len_V210_Row_Row_oz_D6cls rfl)) (show (N121 4 : Int) = m121_3 from (congrArg (fun q : Nat => (q : Int)) (eN121 4)).trans em121_3)
                        have r123 : (-2147483648 : Int) ≤ y121_0_8 ∧ y121_0_8 ≤ 2147483647 := rngE (show (-2147483648 : Int) ≤ F121 0 8 ∧ F121 0 8 ≤ 2147483647 from H.krg 0 8 (ltn len_V210_Row_Row_oz_D6cls rfl)) (show F121 0 8 = y121_0_8 from ((eF121 0 8).trans ey121_0_8))
                        have r124 : (-2147483648 : Int) ≤ y121_2_1 ∧ y121_2_1 ≤ 2147483647 := rngE (show (-2147483648 : Int) ≤ F121 2 1 ∧ F121 2 1 ≤ 2147483647 from H.krg 2 1 (ltn len_V210_Row_Row_oz_D6cls rfl)) (show F121 2 1 = y121_2_1 from ((eF121 2 1).trans ey121_2_1))
                        have r125 : (0 : Int) ≤ y121_2_2 ∧ y121_2_2 ≤ 1 := rngE (show (0 : Int) ≤ F121 2 2 ∧ F121 2 2 ≤ 1 from H.krg 2 2 (ltn len_V210_Row_Row_oz_D6cls rfl)) (show F121 2 2 = y121_2_2 from ((eF121 2 2).trans ey121_2_2))
                        have hcy := pz121_5
                        have hcf := pz121_6
                        try rw [show (y9_0_6) = (a3) by omega] at hcy
                        try rw [show (y9_0_6) = (a3) by omega] at hcf
                        refine Ew_of (pcₚ := 204) (fun _ => x_istore rfl) ?_
                        refine Ew_of (pcₚ := 206) (fun _ => x_iload rfl rk_s) ?_
                        refine w_ifeq (t := 212) rfl rfl (show inr (z121) from pz121_0) (fun b126 => ?_) (fun b126 => ?_)
                        · have : TUs (ub8 ((w3))) ((u1_1)) ((a3)) (q4, CX) (q4 + 4 + (tc119_0), sc ((w121_3)) 0 ((y121_2_1))) := by first | (rw [← hCX]; exact TUs_n (k := q6) (by omega) (TUh_0 (pl := 0) (by rw [hq6]; exact hTg) (by rcases (show q6 = 255 ∨ q6 ≠ 255 by omega) with z | z; (exact .inl ⟨z, (k186 (by omega)).1, (k186 (by omega)).2⟩); (exact .inr (.inr ⟨by omega, z⟩))) rfl) (by omega) rfl) | (obtain ⟨x, pl0, X, y, w1, w2⟩ := hcy (by omega); rw [← hCX, ← hq4] at y; rw [← hq4] at w1; rw [← hCX] at w2; exact TUs_y (by omega) (TUh_0 (pl := 0) hTg (.inr (.inl ⟨by omega, x⟩)) rfl) (by omega) y w1 rfl w2)
                          exact hc212  _ _ _ _ _ _ _ _  ((rk_o (lc186_0) rfl rfl).trans (congrArg (fun q : Nat => some (Value.ref q)) (((show D121 0 = D_13 0 from (eD121 0).trans (hD121 0 rfl)))).symm)) (rk_o (lc186_4) rfl rfl) (rk_o (lc186_5) rfl rfl) (rk_o (lc186_7) rfl rfl) H O (SD_trans (SD_refl) (SD_gluc (ι := oz_D6clsl_14) oz_D6cls_44 hD121 eD121 (by decide +kernel)) (any_subA (lₚ := [4]) (by decide +kernel))) (SD_trans (SD_refl) (SD_gluc (ι := oz_D6clsl_14) oz_D6cls_44 hN121 eN121 (by decide +kernel)) (any_subA (lₚ := [4]) (by decide +kernel))) (SF_trans (SF_refl) (SF_gluc (ι := oz_D6clsl_14) oz_D6cls_44 hS121 eF121 (by decide +kernel)) (any_sub (lₚ := [(0, 7), (0, 8), (2, 0), (2, 1), (2, 2)]) (by decide +kernel))) (SA_trans (SA_refl) (SA_gluc (ι := oz_D6clsl_14) oz_D6cls_44 hA121 eA121 (by decide +kernel)) (any_subA (lₚ := [4]) (by decide +kernel))) (pf121_2_0) (m121_3) ((congrArg (fun q : Nat => (q : Int)) (eN121 4)).trans em121_3) (y121_2_1) (((eF121 2 1).trans ey121_2_1)) (y121_2_2) (((eF121 2 2).trans ey121_2_2)) (w121_3) ((eA121 4).trans ew121_3) (show 0 ≤ (x13_4) ∧ (x13_4) ≤ (y9_0_4) from j13_4) (show 0 ≤ (y121_2_1) ∧ (y121_2_1) ≤ (m121_3) ∧ (m121_3) ≤ 65536 from pz121_2) (show (y121_2_1) ≤ (a3) from q_3398 j13_9 pz121_3) (show 0 ≤ (y9_0_4) ∧ (y9_0_4) ≤ (n3) from j13_7) (show (y121_2_2) = 0 from pz121_4) (show (y9_0_6) = (a3) ∧ (y9_0_4) = (u1_1) from j13_9) (show TUs (ub8 ((w3))) ((u1_1)) ((a3)) (q4, CX) (q4 + 4 + (tc119_0), sc ((w121_3)) 0 ((y121_2_1))) by assumption)
                        · refine Ew_of (pcₚ := 211) (fun _ => x_iload rfl rk_s) ?_
                          have : IMP (((z121) : Int) ≠ 0) (IT (TUs (ub8 ((w3))) ((u1_1)) ((a3))) (TUe (ub8 ((w3))) ((u1_1)) ((a3))) (0, []) (((z121) : Int), (y121_0_8), [])) := fun z => by rcases hcf z with ⟨x, y, w⟩ | ⟨x, f0, pl0, X, y, w⟩; (exact ITO_e j13_x (TUe_h (by omega) (TUh_10 hTg (by omega) x y (by omega)) z)); (rw [← hCX, ← hq4] at y; rcases w with ⟨w1, w2, w3⟩ | ⟨w1, w2, w3, w4⟩); (rw [w2, w3]; exact ITO_e j13_x (TUe_b (by omega) (TUh_0 (pl := 0) hTg (.inr (.inl ⟨by omega, x⟩)) rfl) (by omega) y w1)); (rw [← hq4] at w2; rw [w1] at y; exact ITO_e j13_x (TUe_c (by omega) (TUh_0 (pl := 0) hTg (.inr (.inl ⟨by omega, x⟩)) rfl) (by omega) y w2 w3 (by omega)))
                          have : IMP (((z121) : Int) = 0) (IT (TUs (ub8 ((w3))) ((u1_1)) ((a3))) (TUe (ub8 ((w3))) ((u1_1)) ((a3))) (0, []) (0, (y121_0_8), sc ((w121_3)) 0 ((y121_2_1)))) := fun z => absurd z (by omega)
                          exact w_ireturn rfl (k (z121) _ _ _ _ _ _ _ H O (cD121) (cN121) (cF121) (cA121) (pf121_2_0) (m121_3) ((congrArg (fun q : Nat => (q : Int)) (eN121 4)).trans em121_3) (y121_0_8) (((eF121 0 8).trans ey121_0_8)) (y121_2_1) (((eF121 2 1).trans ey121_2_1)) (y121_2_2) (((eF121 2 2).trans ey121_2_2)) (w121_3) ((eA121 4).trans ew121_3) (show inr (z121) from pz121_0) (show 0 ≤ (z121) ∧ (z121) ≤ 12 from pz121_1) (show 0 ≤ (y121_2_1) ∧ (y121_2_1) ≤ (m121_3) ∧ (m121_3) ≤ 65536 from pz121_2) (show (y121_2_2) = 0 from pz121_4) (show IMP ((z121) ≠ 0) (IT (TUs (ub8 ((w3))) ((u1_1)) (a3)) (TUe (ub8 ((w3))) ((u1_1)) (a3)) (0, []) ((z121), (y121_0_8), [])) by assumption) (show IMP ((z121) = 0) (IT (TUs (ub8 ((w3))) ((u1_1)) (a3)) (TUe (ub8 ((w3))) ((u1_1)) (a3)) (0, []) (0, (y121_0_8), sc ((w121_3)) 0 ((y121_2_1)))) by assumption) (show (z121) ≠ 0 ∨ (y121_0_8) = (u1_1) from q_3250 b126))
                    refine Ew_of (pcₚ := 151) (fun _ => x_sipush (z := 255) rfl (by decide)) ?_
                    refine w_icmpne (t := 186) rfl rfl (show inr ((v24 % 256)) from q_3468 b114 b85) (show inr (255) from q_297) (fun b127 => ?_) (fun b127 => ?_)
                    · have : IMP (((v24 % 256)) = 255) ((tc119_0) = 6 ∧ MKQ (ub8 ((w3))) (q4) ((u1_1))) := by first | exact fun z => absurd z (by omega) | exact fun z => ⟨by omega, by rcases hmk with ⟨x, y⟩ | ⟨x, y⟩; (exact y); (omega)⟩
                      exact hc186  _ _ _ _  (rk_o (lc119_0) rfl rfl) (rk_o (lc119_4) rfl rfl) (rk_o (lc119_5) rfl rfl) (rk_o (lc119_6) rfl rfl) (rk_s) H O (SF_refl) (SA_refl)     (show IMP (((v24 % 256)) = 255) ((tc119_0) = 6 ∧ MKQ (ub8 ((w3))) (q4) ((u1_1))) by assumption)
                    · refine Ew_of (pcₚ := 156) (fun _ => x_iload rfl rk_s) ?_
                      refine Ew_of (pcₚ := 158) (fun _ => x_bipush (z := 6) rfl (by decide)) ?_
                      refine w_icmpne (t := 177) rfl rfl (show inr (tc119_0) from jc119_0) (show inr (6) from q_756) (fun b128 => ?_) (fun b128 => ?_)
                      · refine Ew_of (pcₚ := 178) (fun _ => x_aload_n rfl (rk_o (lc119_0) rfl rfl)) ?_
                        refine Ew_of (pcₚ := 180) (fun _ => x_bipush (z := 8) rfl (by decide)) ?_
                        refine Ew_of (pcₚ := 182) (fun _ => x_iload rfl (rk_o (lc119_4) rfl rfl)) ?_
                        have r129 : (-2147483648 : Int) ≤ F_13 0 8 ∧ F_13 0 8 ≤ 2147483647 := rngE (show (-2147483648 : Int) ≤ F_c119 0 8 ∧ F_c119 0 8 ≤ 2147483647 from H.krg 0 8 (ltn len_V210_Row_Row_oz_D6cls rfl)) (show F_c119 0 8 = F_13 0 8 from (hS_c119 0 8 rfl))
                        refine v_inv H (o := 0) rfl rfl rfl rfl rfl rfl (by rfl) (C203 (D := puc 0 D_13) (N := puc 0 N_13) (HW_subc H oz_D6cls_37 oz_D6cls_29) (F_13 0 8) ((hS_c119 0 8 rfl)) (show inr (8) from q_141) (show inr (x13_4) from j13_0) (fun z130 σ130 F130ₚ A130ₚ Hₚ Oₚ hS130 hA130 y130_0_8 ey130_0_8 pz130_0 pz130_1 pz130_2 => ⟨rfl, ?_⟩))
                        refine v_backc (c := c_13) (s := s_13) H oz_D6cls_37 oz_D6cls_29 Hₚ Oₚ (fun F130 A130 H Oₚ eF130 eA130 => ?_)
                        have O := OUT_trans O Oₚ
                        -- Tags.fail
                        have cF130 : SF oz_D6clsl_13 F F130 := SF_trans (cF_c119) (SF_gluc (ι := oz_D6clsl_8) oz_D6cls_29 hS130 eF130 (by decide +kernel)) (any_sub (lₚ := [(0, 8)]) (by decide +kernel))
                        have mF130 := SFm_of cF130 oz_D6cls_42
                        have cA130 : SA oz_D6clsl_6 A A130 := SA_trans (cA_c119) (SA_gluc (ι := oz_D6clsl_8) oz_D6cls_29 hA130 eA130 (by decide +kernel)) (any_subA (lₚ := []) (by decide +kernel))
                        have mA130 := SAm_of cA130 oz_D6cls_43
                        have r131 : (-2147483648 : Int) ≤ y130_0_8 ∧ y130_0_8 ≤ 2147483647 := rngE (show (-2147483648 : Int) ≤ F130 0 8 ∧ F130 0 8 ≤ 2147483647 from H.krg 0 8 (ltn len_V210_Row_Row_oz_D6cls rfl)) (show F130 0 8 = y130_0_8 from ((eF130 0 8).trans ey130_0_8))
                        have : IMP (((z130) : Int) ≠ 0) (IT (TUs (ub8 ((w3))) ((u1_1)) ((a3))) (TUe (ub8 ((w3))) ((u1_1)) ((a3))) (0, []) (((z130) : Int), (y130_0_8), [])) := fun z => ITO_e j13_x (TUe_h (by omega) (TUh_m (z := (tc119_0)) ⟨hkd, by omega, by omega, by omega, hz7, by omega⟩ (by omega) (fun q => by first | (have := q.1; omega) | (rcases hmk with ⟨x, y⟩ | ⟨x, y⟩; (omega); (exact y q.2))) (by omega) (by omega)) z)
                        have : IMP (((z130) : Int) = 0) (IT (TUs (ub8 ((w3))) ((u1_1)) ((a3))) (TUe (ub8 ((w3))) ((u1_1)) ((a3))) (0, []) (0, (y130_0_8), sc ((w13_4)) 0 ((y13_2_1)))) := fun z => absurd z (by omega)
                        exact w_ireturn rfl (k (z130) _ _ _ _ _ _ _ H O (cD_13) (cN_13) (cF130) (cA130) (((((show F130 2 0 = F_c119 2 0 from (eF130 2 0))).trans (hS_c119 2 0 rfl))).trans (pm13_4)) (m13_4) (em13_4) (y130_0_8) (((eF130 0 8).trans ey130_0_8)) (y13_2_1) (((((show F130 2 1 = F_c119 2 1 from (eF130 2 1))).trans (hS_c119 2 1 rfl)).trans (ey13_2_1))) (y13_2_2) (((((show F130 2 2 = F_c119 2 2 from (eF130 2 2))).trans (hS_c119 2 2 rfl)).trans (ey13_2_2))) (w13_4) (((show A130 4 = A_c119 4 from (eA130 4))).trans ((funext (hA_c119 4 rfl)).trans (ew13_4))) (show inr (z130) from pz130_0) (show 0 ≤ (z130) ∧ (z130) ≤ 12 from q_3439 pz130_1) (show 0 ≤ (y13_2_1) ∧ (y13_2_1) ≤ (m13_4) ∧ (m13_4) ≤ 65536 from j13_5) (show (y13_2_2) = 0 from j13_8) (show IMP ((z130) ≠ 0) (IT (TUs (ub8 ((w3))) ((u1_1)) (a3)) (TUe (ub8 ((w3))) ((u1_1)) (a3)) (0, []) ((z130), (y130_0_8), [])) by assumption) (show IMP ((z130) = 0) (IT (TUs (ub8 ((w3))) ((u1_1)) (a3)) (TUe (ub8 ((w3))) ((u1_1)) (a3)) (0, []) (0, (y130_0_8), sc ((w13_4)) 0 ((y13_2_1)))) by assumption) (show (z130) ≠ 0 ∨ (y130_0_8) = (u1_1) from q_3438 pz130_1))
                      · refine Ew_of (pcₚ := 162) (fun _ => x_aload_n rfl (rk_o (lc119_0) rfl rfl)) ?_
                        refine v_g H (o := 0) (v := .ref (D_13 3)) rfl rfl rfl rfl rfl (vrf (((hS_c119 0 3 rfl)).trans (pf_13_0_3))) ?_
                        refine Ew_of (pcₚ := 167) (fun _ => x_iload rfl (rk_o (lc119_4) rfl rfl)) ?_
                        refine Ew_of (pcₚ := 168) (fun _ => x_aload_n rfl (rk_o (lc119_0) rfl rfl)) ?_
                        refine v_g H (o := 0) (v := I (y9_0_4)) rfl rfl rfl rfl rfl (congrArg (fun z : Int => I z) ((((hS_c119 0 4 rfl).trans (hS_13 0 4 rfl)).trans ((eF9 0 4).trans ey9_0_4)) : F_c119 0 4 = y9_0_4)) ?_
                        refine w_stat24 rfl rfl (by rfl) (C192_Br (D := puc 3 D_13) (N := puc 3 N_13) (HW_subc H oz_D6cls_40 oz_D6cls_30) (STC_out HT HE O) (n3) ((congrArg (fun q : Nat => (q : Int)) (mN_13 3 rfl)).trans (en3)) (w3) ((funext (mA_c119 3 rfl)).trans (ew3)) (show inr (x13_4) from j13_0) (show inr (y9_0_4) from q_512 j13_7 r10) (show 0 ≤ (x13_4) ∧ 0 ≤ (y9_0_4) ∧ (y9_0_4) ≤ (n3) ∧ (n3) ≤ 65536 ∧ (x13_4) ≤ 200000 from q_3462 b25 h1 j13_4 j13_7) (fun z132 σ132 F132ₚ A132ₚ Hₚ Oₚ hS132 hA132 pz132_0 pz132_1 => ⟨rretB rfl pz132_0, ?_⟩))
                        refine v_backc (c := c_13) (s := s_13) H oz_D6cls_40 oz_D6cls_30 Hₚ Oₚ (fun F132 A132 H Oₚ eF132 eA132 => ?_)
                        have O := OUT_trans O Oₚ
                        -- Tags.isMark
                        have cF132 : SF oz_D6clsl_13 F F132 := SF_trans (cF_c119) (SF_gluc (ι := oz_D6clsl_3) oz_D6cls_30 hS132 eF132 (by decide +kernel)) (any_sub (lₚ := []) (by decide +kernel))
                        have mF132 := SFm_of cF132 oz_D6cls_42
                        have cA132 : SA oz_D6clsl_6 A A132 := SA_trans (cA_c119) (SA_gluc (ι := oz_D6clsl_3) oz_D6cls_30 hA132 eA132 (by decide +kernel)) (any_subA (lₚ := []) (by decide +kernel))
                        have mA132 := SAm_of cA132 oz_D6cls_43
                        have hmk := ISM_K pz132_1 (by show (ub8 ((w3))) ((x13_4)) = 255; rw [← hq4, hkd]; omega) (by rw [← nvl_ub, ← hq4, ← hz7]; omega)
                        rw [← hq4] at hmk
                        try rw [show (y9_0_4) = (u1_1) by omega] at hmk
                        refine w_ifne (t := 186) rfl rfl (show inr (z132) from q_138 pz132_0) (fun b133 => ?_) (fun b133 => ?_)
                        · have : IMP (((v24 % 256)) = 255) ((tc119_0) = 6 ∧ MKQ (ub8 ((w3))) (q4) ((u1_1))) := by first | exact fun z => absurd z (by omega) | exact fun z => ⟨by omega, by rcases hmk with ⟨x, y⟩ | ⟨x, y⟩; (exact y); (omega)⟩
                          exact hc186  _ _ _ _  (rk_o (lc119_0) rfl rfl) (rk_o (lc119_4) rfl rfl) (rk_o (lc119_5) rfl rfl) (rk_o (lc119_6) rfl rfl) (rk_s) H O (SF_trans (SF_refl) (SF_gluc (ι := oz_D6clsl_3) oz_D6cls_30 hS132 eF132 (by decide +kernel)) (any_sub (lₚ := []) (by decide +kernel))) (SA_trans (SA_refl) (SA_gluc (ι := oz_D6clsl_3) oz_D6cls_30 hA132 eA132 (by decide +kernel)) (any_subA (lₚ := []) (by decide +kernel)))     (show IMP (((v24 % 256)) = 255) ((tc119_0) = 6 ∧ MKQ (ub8 ((w3))) (q4) ((u1_1))) by assumption)
                        · refine Ew_of (pcₚ := 178) (fun _ => x_aload_n rfl (rk_o (lc119_0) rfl rfl)) ?_
                          refine Ew_of (pcₚ := 180) (fun _ => x_bipush (z := 8) rfl (by decide)) ?_
                          refine Ew_of (pcₚ := 182) (fun _ => x_iload rfl (rk_o (lc119_4) rfl rfl)) ?_
                          have r134 : (-2147483648 : Int) ≤ F_13 0 8 ∧ F_13 0 8 ≤ 2147483647 := rngE (show (-2147483648 : Int) ≤ F132 0 8 ∧ F132 0 8 ≤ 2147483647 from H.krg 0 8 (ltn len_V210_Row_Row_oz_D6cls rfl)) (show F132 0 8 = F_13 0 8 from (((show F132 0 8 = F_c119 0 8 from (eF132 0 8))).trans (hS_c119 0 8 rfl)))
                          refine v_inv H (o := 0) rfl rfl rfl rfl rfl rfl (by rfl) (C203 (D := puc 0 D_13) (N := puc 0 N_13) (HW_subc H oz_D6cls_37 oz_D6cls_29) (F_13 0 8) ((((show F132 0 8 = F_c119 0 8 from (eF132 0 8))).trans (hS_c119 0 8 rfl))) (show inr (8) from q_141) (show inr (x13_4) from j13_0) (fun z135 σ135 F135ₚ A135ₚ Hₚ Oₚ hS135 hA135 y135_0_8 ey135_0_8 pz135_0 pz135_1 pz135_2 => ⟨rfl, ?_⟩))
                          refine v_backc (c := c_13) (s := s_13) H oz_D6cls_37 oz_D6cls_29 Hₚ Oₚ (fun F135 A135 H Oₚ eF135 eA135 => ?_)
                          have O := OUT_trans O Oₚ
                          -- Tags.fail
                          have cF135 : SF oz_D6clsl_13 F F135 := SF_trans (cF132) (SF_gluc (ι := oz_D6clsl_8) oz_D6cls_29 hS135 eF135 (by decide +kernel)) (any_sub (lₚ := [(0, 8)]) (by decide +kernel))
                          have mF135 := SFm_of cF135 oz_D6cls_42
                          have cA135 : SA oz_D6clsl_6 A A135 := SA_trans (cA132) (SA_gluc (ι := oz_D6clsl_8) oz_D6cls_29 hA135 eA135 (by decide +kernel)) (any_subA (lₚ := []) (by decide +kernel))
                          have mA135 := SAm_of cA135 oz_D6cls_43
                          have r136 : (-2147483648 : Int) ≤ y135_0_8 ∧ y135_0_8 ≤ 2147483647 := rngE (show (-2147483648 : Int) ≤ F135 0 8 ∧ F135 0 8 ≤ 2147483647 from H.krg 0 8 (ltn len_V210_Row_Row_oz_D6cls rfl)) (show F135 0 8 = y135_0_8 from ((eF135 0 8).trans ey135_0_8))
                          have : IMP (((z135) : Int) ≠ 0) (IT (TUs (ub8 ((w3))) ((u1_1)) ((a3))) (TUe (ub8 ((w3))) ((u1_1)) ((a3))) (0, []) (((z135) : Int), (y135_0_8), [])) := fun z => ITO_e j13_x (TUe_h (by omega) (TUh_m (z := (tc119_0)) ⟨hkd, by omega, by omega, by omega, hz7, by omega⟩ (by omega) (fun q => by first | (have := q.1; omega) | (rcases hmk with ⟨x, y⟩ | ⟨x, y⟩; (omega); (exact y q.2))) (by omega) (by omega)) z)
                          have : IMP (((z135) : Int) = 0) (IT (TUs (ub8 ((w3))) ((u1_1)) ((a3))) (TUe (ub8 ((w3))) ((u1_1)) ((a3))) (0, []) (0, (y135_0_8), sc ((w13_4)) 0 ((y13_2_1)))) := fun z => absurd z (by omega)
                          exact w_ireturn rfl (k (z135) _ _ _ _ _ _ _ H O (cD_13) (cN_13) (cF135) (cA135) ((((((show F135 2 0 = F132 2 0 from (eF135 2 0))).trans ((show F132 2 0 = F_c119 2 0 from (eF132 2 0)))).trans (hS_c119 2 0 rfl))).trans (pm13_4)) (m13_4) (em13_4) (y135_0_8) (((eF135 0 8).trans ey135_0_8)) (y13_2_1) ((((((show F135 2 1 = F132 2 1 from (eF135 2 1))).trans ((show F132 2 1 = F_c119 2 1 from (eF132 2 1)))).trans (hS_c119 2 1 rfl)).trans (ey13_2_1))) (y13_2_2) ((((((show F135 2 2 = F132 2 2 from (eF135 2 2))).trans ((show F132 2 2 = F_c119 2 2 from (eF132 2 2)))).trans (hS_c119 2 2 rfl)).trans (ey13_2_2))) (w13_4) (((show A135 4 = A132 4 from (eA135 4))).trans (((show A132 4 = A_c119 4 from (eA132 4))).trans ((funext (hA_c119 4 rfl)).trans (ew13_4)))) (show inr (z135) from pz135_0) (show 0 ≤ (z135) ∧ (z135) ≤ 12 from q_3439 pz135_1) (show 0 ≤ (y13_2_1) ∧ (y13_2_1) ≤ (m13_4) ∧ (m13_4) ≤ 65536 from j13_5) (show (y13_2_2) = 0 from j13_8) (show IMP ((z135) ≠ 0) (IT (TUs (ub8 ((w3))) ((u1_1)) (a3)) (TUe (ub8 ((w3))) ((u1_1)) (a3)) (0, []) ((z135), (y135_0_8), [])) by assumption) (show IMP ((z135) = 0) (IT (TUs (ub8 ((w3))) ((u1_1)) (a3)) (TUe (ub8 ((w3))) ((u1_1)) (a3)) (0, []) (0, (y135_0_8), sc ((w13_4)) 0 ((y13_2_1)))) by assumption) (show (z135) ≠ 0 ∨ (y135_0_8) = (u1_1) from q_3438 pz135_1))
                  · have hz7b : (y9_0_4) < (x13_4) + 4 ∨ (tc119_0) = nvl (ub8 ((w3))) (q4 + 1) 3 := q_3441 jc119_2
                    refine Ew_of (pcₚ := 136) (fun _ => x_aload_n rfl (rk_o (lc119_0) rfl rfl)) ?_
                    refine Ew_of (pcₚ := 138) (fun _ => x_bipush (z := 7) rfl (by decide)) ?_
                    refine Ew_of (pcₚ := 139) (fun _ => x_aload_n rfl (rk_o (lc119_0) rfl rfl)) ?_
                    refine v_g H (o := 0) (v := I (y9_0_4)) rfl rfl rfl rfl rfl (congrArg (fun z : Int => I z) ((((hS_c119 0 4 rfl).trans (hS_13 0 4 rfl)).trans ((eF9 0 4).trans ey9_0_4)) : F_c119 0 4 = y9_0_4)) ?_
                    have r137 : (-2147483648 : Int) ≤ F_13 0 8 ∧ F_13 0 8 ≤ 2147483647 := rngE (show (-2147483648 : Int) ≤ F_c119 0 8 ∧ F_c119 0 8 ≤ 2147483647 from H.krg 0 8 (ltn len_V210_Row_Row_oz_D6cls rfl)) (show F_c119 0 8 = F_13 0 8 from (hS_c119 0 8 rfl))
                    refine v_inv H (o := 0) rfl rfl rfl rfl rfl rfl (by rfl) (C203 (D := puc 0 D_13) (N := puc 0 N_13) (HW_subc H oz_D6cls_37 oz_D6cls_29) (F_13 0 8) ((hS_c119 0 8 rfl)) (show inr (7) from q_597) (show inr (y9_0_4) from q_512 j13_7 r10) (fun z138 σ138 F138ₚ A138ₚ Hₚ Oₚ hS138 hA138 y138_0_8 ey138_0_8 pz138_0 pz138_1 pz138_2 => ⟨rfl, ?_⟩))
                    refine v_backc (c := c_13) (s := s_13) H oz_D6cls_37 oz_D6cls_29 Hₚ Oₚ (fun F138 A138 H Oₚ eF138 eA138 => ?_)
                    have O := OUT_trans O Oₚ
                    -- Tags.fail
                    have cF138 : SF oz_D6clsl_13 F F138 := SF_trans (cF_c119) (SF_gluc (ι := oz_D6clsl_8) oz_D6cls_29 hS138 eF138 (by decide +kernel)) (any_sub (lₚ := [(0, 8)]) (by decide +kernel))
                    have mF138 := SFm_of cF138 oz_D6cls_42
                    have cA138 : SA oz_D6clsl_6 A A138 := SA_trans (cA_c119) (SA_gluc (ι := oz_D6clsl_8) oz_D6cls_29 hA138 eA138 (by decide +kernel)) (any_subA (lₚ := []) (by decide +kernel))
                    have mA138 := SAm_of cA138 oz_D6cls_43
                    have r139 : (-2147483648 : Int) ≤ y138_0_8 ∧ y138_0_8 ≤ 2147483647 := rngE (show (-2147483648 : Int) ≤ F138 0 8 ∧ F138 0 8 ≤ 2147483647 from H.krg 0 8 (ltn len_V210_Row_Row_oz_D6cls rfl)) (show F138 0 8 = y138_0_8 from ((eF138 0 8).trans ey138_0_8))
                    have : IMP (((z138) : Int) ≠ 0) (IT (TUs (ub8 ((w3))) ((u1_1)) ((a3))) (TUe (ub8 ((w3))) ((u1_1)) ((a3))) (0, []) (((z138) : Int), (y138_0_8), [])) := fun z => ITO_e j13_x ((Decidable.em ((y9_0_4) < (x13_4) + 4)).elim (fun w => TUe_h (z := 0) (by omega) (TUh_7 hkd (by omega) (by omega) (by omega) (by omega) (by omega)) z) (fun w => TUe_h (by omega) (TUh_z hkd (by omega) (by omega) (by omega) (show (tc119_0) = nvl (ub8 ((w3))) (q4 + 1) 3 by omega) (by omega) (by omega) (by omega)) z))
                    have : IMP (((z138) : Int) = 0) (IT (TUs (ub8 ((w3))) ((u1_1)) ((a3))) (TUe (ub8 ((w3))) ((u1_1)) ((a3))) (0, []) (0, (y138_0_8), sc ((w13_4)) 0 ((y13_2_1)))) := fun z => absurd z (by omega)
                    exact w_ireturn rfl (k (z138) _ _ _ _ _ _ _ H O (cD_13) (cN_13) (cF138) (cA138) (((((show F138 2 0 = F_c119 2 0 from (eF138 2 0))).trans (hS_c119 2 0 rfl))).trans (pm13_4)) (m13_4) (em13_4) (y138_0_8) (((eF138 0 8).trans ey138_0_8)) (y13_2_1) (((((show F138 2 1 = F_c119 2 1 from (eF138 2 1))).trans (hS_c119 2 1 rfl)).trans (ey13_2_1))) (y13_2_2) (((((show F138 2 2 = F_c119 2 2 from (eF138 2 2))).trans (hS_c119 2 2 rfl)).trans (ey13_2_2))) (w13_4) (((show A138 4 = A_c119 4 from (eA138 4))).trans ((funext (hA_c119 4 rfl)).trans (ew13_4))) (show inr (z138) from pz138_0) (show 0 ≤ (z138) ∧ (z138) ≤ 12 from q_3443 pz138_1) (show 0 ≤ (y13_2_1) ∧ (y13_2_1) ≤ (m13_4) ∧ (m13_4) ≤ 65536 from j13_5) (show (y13_2_2) = 0 from j13_8) (show IMP ((z138) ≠ 0) (IT (TUs (ub8 ((w3))) ((u1_1)) (a3)) (TUe (ub8 ((w3))) ((u1_1)) (a3)) (0, []) ((z138), (y138_0_8), [])) by assumption) (show IMP ((z138) = 0) (IT (TUs (ub8 ((w3))) ((u1_1)) (a3)) (TUe (ub8 ((w3))) ((u1_1)) (a3)) (0, []) (0, (y138_0_8), sc ((w13_4)) 0 ((y13_2_1)))) by assumption) (show (z138) ≠ 0 ∨ (y138_0_8) = (u1_1) from q_3442 pz138_1))
                refine Ew_of (pcₚ := 89) (fun _ => x_aload_n rfl (rk_o (l13_0) rfl rfl)) ?_
                refine v_g H (o := 0) (v := I (y9_0_4)) rfl rfl rfl rfl rfl (congrArg (fun z : Int => I z) (((hS_13 0 4 rfl).trans ((eF9 0 4).trans ey9_0_4)) : F_13 0 4 = y9_0_4)) ?_
                refine Ew_of (pcₚ := 94) (fun _ => x_iload rfl (rk_o (l13_4) rfl rfl)) ?_
                refine w_isub rfl ?_
                refine Ew_of (pcₚ := 96) (fun _ => x_iconst rfl) ?_
                refine w_icmpge (t := 106) rfl rfl (show inr ((y9_0_4 - x13_4)) from q_3463 b20 b25 r10) (show inr (4) from q_216) (fun b140 => ?_) (fun b140 => ?_)
                · refine Ew_of (pcₚ := 107) (fun _ => x_aload_n rfl (rk_o (l13_0) rfl rfl)) ?_
                  refine v_g H (o := 0) (v := .ref (D_13 3)) rfl rfl rfl rfl rfl (vrf (pf_13_0_3)) ?_
                  refine Ew_of (pcₚ := 112) (fun _ => x_iload rfl (rk_o (l13_4) rfl rfl)) ?_
                  refine Ew_of (pcₚ := 113) (fun _ => x_iconst rfl) ?_
                  refine w_iadd rfl ?_
                  refine Ew_of (pcₚ := 115) (fun _ => x_iconst rfl) ?_
                  refine w_stat25 rfl rfl (by rfl) (C42_Br (D := puc 3 D_13) (N := puc 3 N_13) (HW_subc H oz_D6cls_41 oz_D6cls_30) (n3) ((congrArg (fun q : Nat => (q : Int)) (mN_13 3 rfl)).trans (en3)) (w3) ((funext (mA_13 3 rfl)).trans (ew3)) (show inr ((x13_4 + 1)) from q_1817 b25) (show inr (3) from q_246) (show (3) ≤ 0 ∨ 0 ≤ ((x13_4 + 1)) ∧ ((x13_4 + 1)) + (3) ≤ (n3) from q_3464 b140 b25 j13_7) (show 0 ≤ (3) ∧ (3) ≤ 8 from q_2174) (fun z141 σ141 F141ₚ A141ₚ Hₚ Oₚ hS141 hA141 pz141_0 pz141_1 pz141_2 => ⟨rfl, ?_⟩))
                  refine v_backc (c := c_13) (s := s_13) H oz_D6cls_41 oz_D6cls_30 Hₚ Oₚ (fun F141 A141 H Oₚ eF141 eA141 => ?_)
                  have O := OUT_trans O Oₚ
                  -- PackHouse.number
                  have cF141 : SF oz_D6clsl_13 F F141 := SF_trans (cF_13) (SF_gluc (ι := oz_D6clsl_3) oz_D6cls_30 hS141 eF141 (by decide +kernel)) (any_sub (lₚ := []) (by decide +kernel))
                  have mF141 := SFm_of cF141 oz_D6cls_42
                  have cA141 : SA oz_D6clsl_6 A A141 := SA_trans (cA_13) (SA_gluc (ι := oz_D6clsl_3) oz_D6cls_30 hA141 eA141 (by decide +kernel)) (any_subA (lₚ := []) (by decide +kernel))
                  have mA141 := SAm_of cA141 oz_D6cls_43
                  have hb3 := nb3 pz141_1
                  have hn3 : (z141) = nvl (ub8 ((w3))) (q4 + 1) 3 := by rw [nvl_ub, hq4]; exact nmb_nn pz141_2 (by omega) pz141_0
                  refine w_l2i rfl ?_
                  exact hc119 (z141) _ _ _ _  (rk_o (l13_0) rfl rfl) (rk_o (l13_4) rfl rfl) (rk_o (l13_5) rfl rfl) (rk_s) H O (SF_trans (SF_refl) (SF_gluc (ι := oz_D6clsl_3) oz_D6cls_30 hS141 eF141 (by decide +kernel)) (any_sub (lₚ := []) (by decide +kernel))) (SA_trans (SA_refl) (SA_gluc (ι := oz_D6clsl_3) oz_D6cls_30 hA141 eA141 (by decide +kernel)) (any_subA (lₚ := []) (by decide +kernel)))     (show inr (z141) by omega) (show 0 ≤ (z141) ∧ (z141) ≤ 16777215 by omega) (show (y9_0_4) < (x13_4) + 4 ∧ (z141) = (y9_0_4) ∨ (x13_4) + 4 ≤ (y9_0_4) ∧ (z141) = nvl (ub8 ((w3))) (q4 + 1) 3 from q_3446 b140 hn3)
                · refine Ew_of (pcₚ := 100) (fun _ => x_aload_n rfl (rk_o (l13_0) rfl rfl)) ?_
                  refine v_g H (o := 0) (v := I (y9_0_4)) rfl rfl rfl rfl rfl (congrArg (fun z : Int => I z) (((hS_13 0 4 rfl).trans ((eF9 0 4).trans ey9_0_4)) : F_13 0 4 = y9_0_4)) ?_
                  refine Ew_of (pcₚ := 119) (fun _ => x_goto rfl rfl) ?_
                  exact hc119 (y9_0_4) _ _ _ _  (rk_o (l13_0) rfl rfl) (rk_o (l13_4) rfl rfl) (rk_o (l13_5) rfl rfl) (rk_s) H O (SF_refl) (SA_refl)     (show inr (y9_0_4) from q_512 j13_7 r10) (show 0 ≤ (y9_0_4) ∧ (y9_0_4) ≤ 16777215 from q_3465 b140 b25 j13_7) (show (y9_0_4) < (x13_4) + 4 ∧ (y9_0_4) = (y9_0_4) ∨ (x13_4) + 4 ≤ (y9_0_4) ∧ (y9_0_4) = nvl (ub8 ((w3))) (q4 + 1) 3 from q_3447 b140)
              · refine Ew_of (pcₚ := 80) (fun _ => x_aload_n rfl (rk_o (l13_0) rfl rfl)) ?_
                refine Ew_of (pcₚ := 82) (fun _ => x_bipush (z := 9) rfl (by decide)) ?_
                refine Ew_of (pcₚ := 84) (fun _ => x_iload rfl (rk_o (l13_4) rfl rfl)) ?_
                have r142 : (-2147483648 : Int) ≤ F_13 0 8 ∧ F_13 0 8 ≤ 2147483647 := H.krg 0 8 (ltn len_V210_Row_Row_oz_D6cls rfl)
                refine v_inv H (o := 0) rfl rfl rfl rfl rfl rfl (by rfl) (C203 (D := puc 0 D_13) (N := puc 0 N_13) (HW_subc H oz_D6cls_37 oz_D6cls_29) (F_13 0 8) (rfl) (show inr (9) from q_291) (show inr (x13_4) from j13_0) (fun z143 σ143 F143ₚ A143ₚ Hₚ Oₚ hS143 hA143 y143_0_8 ey143_0_8 pz143_0 pz143_1 pz143_2 => ⟨rfl, ?_⟩))
                refine v_backc (c := c_13) (s := s_13) H oz_D6cls_37 oz_D6cls_29 Hₚ Oₚ (fun F143 A143 H Oₚ eF143 eA143 => ?_)
                have O := OUT_trans O Oₚ
                -- Tags.fail
                have cF143 : SF oz_D6clsl_13 F F143 := SF_trans (cF_13) (SF_gluc (ι := oz_D6clsl_8) oz_D6cls_29 hS143 eF143 (by decide +kernel)) (any_sub (lₚ := [(0, 8)]) (by decide +kernel))
                have mF143 := SFm_of cF143 oz_D6cls_42
                have cA143 : SA oz_D6clsl_6 A A143 := SA_trans (cA_13) (SA_gluc (ι := oz_D6clsl_8) oz_D6cls_29 hA143 eA143 (by decide +kernel)) (any_subA (lₚ := []) (by decide +kernel))
                have mA143 := SAm_of cA143 oz_D6cls_43
                have r144 : (-2147483648 : Int) ≤ y143_0_8 ∧ y143_0_8 ≤ 2147483647 := rngE (show (-2147483648 : Int) ≤ F143 0 8 ∧ F143 0 8 ≤ 2147483647 from H.krg 0 8 (ltn len_V210_Row_Row_oz_D6cls rfl)) (show F143 0 8 = y143_0_8 from ((eF143 0 8).trans ey143_0_8))
                have : IMP (((z143) : Int) ≠ 0) (IT (TUs (ub8 ((w3))) ((u1_1)) ((a3))) (TUe (ub8 ((w3))) ((u1_1)) ((a3))) (0, []) (((z143) : Int), (y143_0_8), [])) := fun z => ITO_e j13_x (TUe_h (z := 0) (by omega) (TUh_9 hkd (by omega) (by omega) (by omega) (by omega)) z)
                have : IMP (((z143) : Int) = 0) (IT (TUs (ub8 ((w3))) ((u1_1)) ((a3))) (TUe (ub8 ((w3))) ((u1_1)) ((a3))) (0, []) (0, (y143_0_8), sc ((w13_4)) 0 ((y13_2_1)))) := fun z => absurd z (by omega)
                exact w_ireturn rfl (k (z143) _ _ _ _ _ _ _ H O (cD_13) (cN_13) (cF143) (cA143) ((((show F143 2 0 = F_13 2 0 from (eF143 2 0)))).trans (pm13_4)) (m13_4) (em13_4) (y143_0_8) (((eF143 0 8).trans ey143_0_8)) (y13_2_1) ((((show F143 2 1 = F_13 2 1 from (eF143 2 1))).trans (ey13_2_1))) (y13_2_2) ((((show F143 2 2 = F_13 2 2 from (eF143 2 2))).trans (ey13_2_2))) (w13_4) (((show A143 4 = A_13 4 from (eA143 4))).trans (ew13_4)) (show inr (z143) from pz143_0) (show 0 ≤ (z143) ∧ (z143) ≤ 12 from q_3454 pz143_1) (show 0 ≤ (y13_2_1) ∧ (y13_2_1) ≤ (m13_4) ∧ (m13_4) ≤ 65536 from j13_5) (show (y13_2_2) = 0 from j13_8) (show IMP ((z143) ≠ 0) (IT (TUs (ub8 ((w3))) ((u1_1)) (a3)) (TUe (ub8 ((w3))) ((u1_1)) (a3)) (0, []) ((z143), (y143_0_8), [])) by assumption) (show IMP ((z143) = 0) (IT (TUs (ub8 ((w3))) ((u1_1)) (a3)) (TUe (ub8 ((w3))) ((u1_1)) (a3)) (0, []) (0, (y143_0_8), sc ((w13_4)) 0 ((y13_2_1)))) by assumption) (show (z143) ≠ 0 ∨ (y143_0_8) = (u1_1) from q_3453 pz143_1))
          · refine Ew_of (pcₚ := 58) (fun _ => x_aload_n rfl (rk_o (l13_0) rfl rfl)) ?_
            refine Ew_of (pcₚ := 60) (fun _ => x_bipush (z := 8) rfl (by decide)) ?_
            refine Ew_of (pcₚ := 62) (fun _ => x_iload rfl (rk_o (l13_4) rfl rfl)) ?_
            have r145 : (-2147483648 : Int) ≤ F_13 0 8 ∧ F_13 0 8 ≤ 2147483647 := H.krg 0 8 (ltn len_V210_Row_Row_oz_D6cls rfl)
            refine v_inv H (o := 0) rfl rfl rfl rfl rfl rfl (by rfl) (C203 (D := puc 0 D_13) (N := puc 0 N_13) (HW_subc H oz_D6cls_37 oz_D6cls_29) (F_13 0 8) (rfl) (show inr (8) from q_141) (show inr (x13_4) from j13_0) (fun z146 σ146 F146ₚ A146ₚ Hₚ Oₚ hS146 hA146 y146_0_8 ey146_0_8 pz146_0 pz146_1 pz146_2 => ⟨rfl, ?_⟩))
            refine v_backc (c := c_13) (s := s_13) H oz_D6cls_37 oz_D6cls_29 Hₚ Oₚ (fun F146 A146 H Oₚ eF146 eA146 => ?_)
            have O := OUT_trans O Oₚ
            -- Tags.fail
            have cF146 : SF oz_D6clsl_13 F F146 := SF_trans (cF_13) (SF_gluc (ι := oz_D6clsl_8) oz_D6cls_29 hS146 eF146 (by decide +kernel)) (any_sub (lₚ := [(0, 8)]) (by decide +kernel))
            have mF146 := SFm_of cF146 oz_D6cls_42
            have cA146 : SA oz_D6clsl_6 A A146 := SA_trans (cA_13) (SA_gluc (ι := oz_D6clsl_8) oz_D6cls_29 hA146 eA146 (by decide +kernel)) (any_subA (lₚ := []) (by decide +kernel))
            have mA146 := SAm_of cA146 oz_D6cls_43
            have r147 : (-2147483648 : Int) ≤ y146_0_8 ∧ y146_0_8 ≤ 2147483647 := rngE (show (-2147483648 : Int) ≤ F146 0 8 ∧ F146 0 8 ≤ 2147483647 from H.krg 0 8 (ltn len_V210_Row_Row_oz_D6cls rfl)) (show F146 0 8 = y146_0_8 from ((eF146 0 8).trans ey146_0_8))
            have : IMP (((z146) : Int) ≠ 0) (IT (TUs (ub8 ((w3))) ((u1_1)) ((a3))) (TUe (ub8 ((w3))) ((u1_1)) ((a3))) (0, []) (((z146) : Int), (y146_0_8), [])) := fun z => ITO_e j13_x (TUe_h (z := 0) (by omega) (TUh_8 hkd (by omega) (by omega) (by omega) (by omega)) z)
            have : IMP (((z146) : Int) = 0) (IT (TUs (ub8 ((w3))) ((u1_1)) ((a3))) (TUe (ub8 ((w3))) ((u1_1)) ((a3))) (0, []) (0, (y146_0_8), sc ((w13_4)) 0 ((y13_2_1)))) := fun z => absurd z (by omega)
            exact w_ireturn rfl (k (z146) _ _ _ _ _ _ _ H O (cD_13) (cN_13) (cF146) (cA146) ((((show F146 2 0 = F_13 2 0 from (eF146 2 0)))).trans (pm13_4)) (m13_4) (em13_4) (y146_0_8) (((eF146 0 8).trans ey146_0_8)) (y13_2_1) ((((show F146 2 1 = F_13 2 1 from (eF146 2 1))).trans (ey13_2_1))) (y13_2_2) ((((show F146 2 2 = F_13 2 2 from (eF146 2 2))).trans (ey13_2_2))) (w13_4) (((show A146 4 = A_13 4 from (eA146 4))).trans (ew13_4)) (show inr (z146) from pz146_0) (show 0 ≤ (z146) ∧ (z146) ≤ 12 from q_3439 pz146_1) (show 0 ≤ (y13_2_1) ∧ (y13_2_1) ≤ (m13_4) ∧ (m13_4) ≤ 65536 from j13_5) (show (y13_2_2) = 0 from j13_8) (show IMP ((z146) ≠ 0) (IT (TUs (ub8 ((w3))) ((u1_1)) (a3)) (TUe (ub8 ((w3))) ((u1_1)) (a3)) (0, []) ((z146), (y146_0_8), [])) by assumption) (show IMP ((z146) = 0) (IT (TUs (ub8 ((w3))) ((u1_1)) (a3)) (TUe (ub8 ((w3))) ((u1_1)) (a3)) (0, []) (0, (y146_0_8), sc ((w13_4)) 0 ((y13_2_1)))) by assumption) (show (z146) ≠ 0 ∨ (y146_0_8) = (u1_1) from q_3438 pz146_1))

