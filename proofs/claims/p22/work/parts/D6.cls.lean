abbrev V219_Row : vV := [(0, 11, [(4, 0), (4, 0), (4, 0), (4, 0), (4, 0), (0, 0), (4, 0), (0, 0), (0, 0), (0, 0), (0, 0), (0, 0), (0, 0)]), (0, 7, [(4, 0), (0, 0), (1, 0), (0, 0), (0, 0)]), (1, 0, []), (1, 1, [])]
theorem len_V219_Row_oz_D6cls : (V219_Row).length = 4 := by decide +kernel
theorem oz_D6cls_1 : vsub V219_Row V160 [1, 2] = true := by decide +kernel
theorem oz_D6cls_2 : vmov V219_Row [1, 2] [1] = true := by decide +kernel
theorem oz_D6cls_3 : vsub V219_Row V159 [1, 2] = true := by decide +kernel
theorem oz_D6cls_4 : vsub V219_Row V49_Br [2] = true := by decide +kernel
def oz_D6clsl_0 : List (Nat × Nat) := [(1, 0), (1, 1), (1, 2)]
theorem oz_D6cls_5 : (oz_D6clsl_0).all (fun p => !tbz 30064771072 (Nat.add (Nat.mul 32 p.1) p.2)) = true := by decide +kernel
def oz_D6clsl_1 : List Nat := [2]
theorem oz_D6cls_6 : (oz_D6clsl_1).all (fun p => !tbz 4 p) = true := by decide +kernel
def oz_D6clsl_2 : List Nat := [1, 2]
theorem oz_D6cls_7 : okc oz_D6clsl_2 1025 = true := by decide +kernel
theorem oz_D6cls_8 : okc oz_D6clsl_1 2 = true := by decide +kernel
/-- Tokens.packHead: this, #1, #1.bytes, this.settings -/
theorem C219_Row {σE : rS} {D N : Nat → Nat} {F : hF} {A : hA} {d c s : Nat} {Q : wQ} (H : HW V219_Row σE D N F A) {a2 : Int} (pf2 : F 1 0 = (D 2 : Int)) (pf3 : F 0 0 = (D 3 : Int)) (n2 : Int) (en2 : (N 2 : Int) = n2) (n3 : Int) (en3 : (N 3 : Int) = n3) (u1_1 : Int) (eu1_1 : F 1 1 = u1_1) (h0 : inr (a2)) (h1 : 0 ≤ (u1_1) ∧ (u1_1) ≤ (n2) ∧ (n2) ≤ 65536) (h2 : (u1_1) ≤ 1000) (h3 : (n3) = 10) (k : ∀ (σ : rS) (Dₚ Nₚ : Nat → Nat) (Fₚ : hF) (Aₚ : hA) (cₚ sₚ : Nat), HW V219_Row σ Dₚ Nₚ Fₚ Aₚ → OUT (V219_Row).length D N σE c s Dₚ Nₚ σ cₚ sₚ → SD [2] D Dₚ → SD [2] N Nₚ → SF [(1, 0), (1, 1), (1, 2)] F Fₚ → SA [2] A Aₚ → Fₚ 1 0 = (Dₚ 2 : Int) → ∀ m2 : Int, (Nₚ 2 : Int) = m2 → ∀ y1_1 : Int, Fₚ 1 1 = y1_1 → (0 ≤ (y1_1) ∧ (y1_1) ≤ (m2) ∧ (m2) ≤ 65536) → Q none σ cₚ sₚ) : Ew 219 (d + 3) 0 (rargs 0 [.ref (D 0), .ref (D 1), I a2]) [] σE c s Q := by
  have O := OUT_refl (n := (V219_Row).length) (D := D) (N := N) (σ := σE) (c := c) (s := s)
  have HE := H
  have r1 : (-2147483648 : Int) ≤ u1_1 ∧ u1_1 ≤ 2147483647 := rngE (show (-2147483648 : Int) ≤ F 1 1 ∧ F 1 1 ≤ 2147483647 from H.krg 1 1 (ltn len_V219_Row_oz_D6cls rfl)) (show F 1 1 = u1_1 from (eu1_1))
  have r2 : (0 : Int) ≤ n2 ∧ n2 ≤ 1000000 := nleE (H.nle 2 (ltn len_V219_Row_oz_D6cls rfl)) (show (N 2 : Int) = n2 from en2)
  have r3 : (0 : Int) ≤ n3 ∧ n3 ≤ 1000000 := nleE (H.nle 3 (ltn len_V219_Row_oz_D6cls rfl)) (show (N 3 : Int) = n3 from en3)
  refine Ew_of (pcₚ := 1) (fun _ => x_aload_n rfl rfl) ?_
  refine Ew_of (pcₚ := 4) (fun _ => x_ldc2 (z := 407708164) rfl (by decide)) ?_
  refine Ew_of (pcₚ := 5) (fun _ => x_iconst rfl) ?_
  refine v_inv H (o := 1) rfl rfl rfl rfl rfl rfl (by rfl) (C160 (D := puc 1025 D) (N := puc 1025 N) (HW_subc H oz_D6cls_1 oz_D6cls_7) (pf2) (n2) (en2) (u1_1) ((eu1_1)) (show inrJ (407708164) from q_382) (show inr (4) from q_2) (show 0 ≤ (u1_1) ∧ (u1_1) ≤ (n2) ∧ (n2) ≤ 65536 from h1) (fun σ4 D4ₚ N4ₚ F4ₚ A4ₚ c4 s4 Hₚ Oₚ hD4 hN4 hS4 hA4 pm4_1 m4_1 em4_1 y4_0_1 ey4_0_1 pz4_0 pz4_1 => ⟨rfl, ?_⟩))
  refine v_backMc (c := c) (s := s) H oz_D6cls_1 oz_D6cls_7 Hₚ Oₚ hD4 oz_D6cls_2 (fun D4 N4 F4 A4 H Oₚ eD4 eN4 eF4 eA4 => ?_)
  have O := OUT_trans O Oₚ
  -- Row.addNumber
  have cF4 : SF oz_D6clsl_0 F F4 := SF_trans (SF_refl) (SF_gluc (ι := oz_D6clsl_2) oz_D6cls_7 hS4 eF4 (by decide +kernel)) (any_sub (lₚ := [(1, 0), (1, 1), (1, 2)]) (by decide +kernel))
  have mF4 := SFm_of cF4 oz_D6cls_5
  have cA4 : SA oz_D6clsl_1 A A4 := SA_trans (SA_refl) (SA_gluc (ι := oz_D6clsl_2) oz_D6cls_7 hA4 eA4 (by decide +kernel)) (any_subA (lₚ := [2]) (by decide +kernel))
  have mA4 := SAm_of cA4 oz_D6cls_6
  have cD4 : SD oz_D6clsl_1 D D4 := SD_trans (SD_refl) (SD_gluc (ι := oz_D6clsl_2) oz_D6cls_7 hD4 eD4 (by decide +kernel)) (any_subA (lₚ := [2]) (by decide +kernel))
  have mD4 := SDm_of cD4 oz_D6cls_6
  have cN4 : SD oz_D6clsl_1 N N4 := SD_trans (SD_refl) (SD_gluc (ι := oz_D6clsl_2) oz_D6cls_7 hN4 eN4 (by decide +kernel)) (any_subA (lₚ := [2]) (by decide +kernel))
  have mN4 := SDm_of cN4 oz_D6cls_6
  have pf4_1_0 : F4 1 0 = (D4 2 : Int) := (eF4 1 0).trans (pm4_1.trans (congrArg (fun q : Nat => (q : Int)) (eD4 2).symm))
  have r5 : (0 : Int) ≤ m4_1 ∧ m4_1 ≤ 1000000 := nleE (H.nle 2 (ltn len_V219_Row_oz_D6cls rfl)) (show (N4 2 : Int) = m4_1 from (congrArg (fun q : Nat => (q : Int)) (eN4 2)).trans em4_1)
  have r6 : (-2147483648 : Int) ≤ y4_0_1 ∧ y4_0_1 ≤ 2147483647 := rngE (show (-2147483648 : Int) ≤ F4 1 1 ∧ F4 1 1 ≤ 2147483647 from H.krg 1 1 (ltn len_V219_Row_oz_D6cls rfl)) (show F4 1 1 = y4_0_1 from ((eF4 1 1).trans ey4_0_1))
  refine Ew_of (pcₚ := 9) (fun _ => x_aload_n rfl rfl) ?_
  refine Ew_of (pcₚ := 10) (fun _ => x_aload_n rfl rfl) ?_
  refine Ew_stk (show ([.ref (D 0), .ref (D 1)] : List Value) = [.ref (D4 0), .ref (D4 1)] by rw [show D4 0 = D 0 from mD4 0 rfl, show D4 1 = D 1 from mD4 1 rfl]) ?_
  have r7 : (-2147483648 : Int) ≤ F 0 8 ∧ F 0 8 ≤ 2147483647 := rngE (show (-2147483648 : Int) ≤ F4 0 8 ∧ F4 0 8 ≤ 2147483647 from H.krg 0 8 (ltn len_V219_Row_oz_D6cls rfl)) (show F4 0 8 = F 0 8 from (mF4 0 8 rfl))
  refine v_g H (o := 0) (v := I (F 0 8)) rfl rfl rfl rfl rfl (congrArg (fun z : Int => I z) ((mF4 0 8 rfl) : F4 0 8 = F 0 8)) ?_
  refine v_inv H (o := 1) rfl rfl rfl rfl rfl rfl (by rfl) (C159 (D := puc 1025 D4) (N := puc 1025 N4) (HW_subc H oz_D6cls_3 oz_D6cls_7) (pf4_1_0) (m4_1) ((congrArg (fun q : Nat => (q : Int)) (eN4 2)).trans em4_1) (y4_0_1) (((eF4 1 1).trans ey4_0_1)) (show inr (F 0 8) from q_22 r7) (show 0 ≤ (y4_0_1) ∧ (y4_0_1) ≤ (m4_1) ∧ (m4_1) ≤ 65536 from pz4_0) (fun σ8 D8ₚ N8ₚ F8ₚ A8ₚ c8 s8 Hₚ Oₚ hD8 hN8 hS8 hA8 pm8_1 m8_1 em8_1 y8_0_1 ey8_0_1 pz8_0 pz8_1 pz8_2 => ⟨rfl, ?_⟩))
  refine v_backMc (c := (c + c4)) (s := (s + s4)) H oz_D6cls_3 oz_D6cls_7 Hₚ Oₚ hD8 oz_D6cls_2 (fun D8 N8 F8 A8 H Oₚ eD8 eN8 eF8 eA8 => ?_)
  have O := OUT_trans O Oₚ
  -- Row.add
  have cF8 : SF oz_D6clsl_0 F F8 := SF_trans (cF4) (SF_gluc (ι := oz_D6clsl_2) oz_D6cls_7 hS8 eF8 (by decide +kernel)) (any_sub (lₚ := [(1, 0), (1, 1), (1, 2)]) (by decide +kernel))
  have mF8 := SFm_of cF8 oz_D6cls_5
  have cA8 : SA oz_D6clsl_1 A A8 := SA_trans (cA4) (SA_gluc (ι := oz_D6clsl_2) oz_D6cls_7 hA8 eA8 (by decide +kernel)) (any_subA (lₚ := [2]) (by decide +kernel))
  have mA8 := SAm_of cA8 oz_D6cls_6
  have cD8 : SD oz_D6clsl_1 D D8 := SD_trans (cD4) (SD_gluc (ι := oz_D6clsl_2) oz_D6cls_7 hD8 eD8 (by decide +kernel)) (any_subA (lₚ := [2]) (by decide +kernel))
  have mD8 := SDm_of cD8 oz_D6cls_6
  have cN8 : SD oz_D6clsl_1 N N8 := SD_trans (cN4) (SD_gluc (ι := oz_D6clsl_2) oz_D6cls_7 hN8 eN8 (by decide +kernel)) (any_subA (lₚ := [2]) (by decide +kernel))
  have mN8 := SDm_of cN8 oz_D6cls_6
  have pf8_1_0 : F8 1 0 = (D8 2 : Int) := (eF8 1 0).trans (pm8_1.trans (congrArg (fun q : Nat => (q : Int)) (eD8 2).symm))
  have r9 : (0 : Int) ≤ m8_1 ∧ m8_1 ≤ 1000000 := nleE (H.nle 2 (ltn len_V219_Row_oz_D6cls rfl)) (show (N8 2 : Int) = m8_1 from (congrArg (fun q : Nat => (q : Int)) (eN8 2)).trans em8_1)
  have r10 : (-2147483648 : Int) ≤ y8_0_1 ∧ y8_0_1 ≤ 2147483647 := rngE (show (-2147483648 : Int) ≤ F8 1 1 ∧ F8 1 1 ≤ 2147483647 from H.krg 1 1 (ltn len_V219_Row_oz_D6cls rfl)) (show F8 1 1 = y8_0_1 from ((eF8 1 1).trans ey8_0_1))
  refine Ew_of (pcₚ := 17) (fun _ => x_aload_n rfl rfl) ?_
  refine Ew_of (pcₚ := 18) (fun _ => x_aload_n rfl rfl) ?_
  refine Ew_stk (show ([.ref (D 0), .ref (D 1)] : List Value) = [.ref (D8 0), .ref (D8 1)] by rw [show D8 0 = D 0 from mD8 0 rfl, show D8 1 = D 1 from mD8 1 rfl]) ?_
  refine v_g H (o := 0) (v := .ref (D8 3)) rfl rfl rfl rfl rfl (vrf ((mF8 0 0 rfl).trans ((pf3).trans (congrArg (fun q : Nat => (q : Int)) (mD8 3 rfl).symm)))) ?_
  refine Ew_of (pcₚ := 22) (fun _ => x_iconst rfl) ?_
  refine v_lI H (o := 3) rfl rfl rfl rfl (n := n3) ((congrArg (fun q : Nat => (q : Int)) (mN8 3 rfl)).trans (en3)) (show 0 ≤ 4 ∧ 4 < n3 from q_3026 h3 r3) (fun v11 ev11 qv11 => ?_)
  have ev11 : (A 3) (4) = v11 := (congrFun (funext (mA8 3 rfl)) (4)).symm.trans ev11
  refine Ew_of (pcₚ := 24) (fun _ => x_iconst rfl) ?_
  refine w_ishlA rfl (fun z12 gz12 => ?_)
  refine v_inv H (o := 1) rfl rfl rfl rfl rfl rfl (by rfl) (C159 (D := puc 1025 D8) (N := puc 1025 N8) (HW_subc H oz_D6cls_3 oz_D6cls_7) (pf8_1_0) (m8_1) ((congrArg (fun q : Nat => (q : Int)) (eN8 2)).trans em8_1) (y8_0_1) (((eF8 1 1).trans ey8_0_1)) (show inr (z12) from gz12) (show 0 ≤ (y8_0_1) ∧ (y8_0_1) ≤ (m8_1) ∧ (m8_1) ≤ 65536 from pz8_0) (fun σ13 D13ₚ N13ₚ F13ₚ A13ₚ c13 s13 Hₚ Oₚ hD13 hN13 hS13 hA13 pm13_1 m13_1 em13_1 y13_0_1 ey13_0_1 pz13_0 pz13_1 pz13_2 => ⟨rfl, ?_⟩))
  refine v_backMc (c := ((c + c4) + c8)) (s := ((s + s4) + s8)) H oz_D6cls_3 oz_D6cls_7 Hₚ Oₚ hD13 oz_D6cls_2 (fun D13 N13 F13 A13 H Oₚ eD13 eN13 eF13 eA13 => ?_)
  have O := OUT_trans O Oₚ
  -- Row.add
  have cF13 : SF oz_D6clsl_0 F F13 := SF_trans (cF8) (SF_gluc (ι := oz_D6clsl_2) oz_D6cls_7 hS13 eF13 (by decide +kernel)) (any_sub (lₚ := [(1, 0), (1, 1), (1, 2)]) (by decide +kernel))
  have mF13 := SFm_of cF13 oz_D6cls_5
  have cA13 : SA oz_D6clsl_1 A A13 := SA_trans (cA8) (SA_gluc (ι := oz_D6clsl_2) oz_D6cls_7 hA13 eA13 (by decide +kernel)) (any_subA (lₚ := [2]) (by decide +kernel))
  have mA13 := SAm_of cA13 oz_D6cls_6
  have cD13 : SD oz_D6clsl_1 D D13 := SD_trans (cD8) (SD_gluc (ι := oz_D6clsl_2) oz_D6cls_7 hD13 eD13 (by decide +kernel)) (any_subA (lₚ := [2]) (by decide +kernel))
  have mD13 := SDm_of cD13 oz_D6cls_6
  have cN13 : SD oz_D6clsl_1 N N13 := SD_trans (cN8) (SD_gluc (ι := oz_D6clsl_2) oz_D6cls_7 hN13 eN13 (by decide +kernel)) (any_subA (lₚ := [2]) (by decide +kernel))
  have mN13 := SDm_of cN13 oz_D6cls_6
  have pf13_1_0 : F13 1 0 = (D13 2 : Int) := (eF13 1 0).trans (pm13_1.trans (congrArg (fun q : Nat => (q : Int)) (eD13 2).symm))
  have r14 : (0 : Int) ≤ m13_1 ∧ m13_1 ≤ 1000000 := nleE (H.nle 2 (ltn len_V219_Row_oz_D6cls rfl)) (show (N13 2 : Int) = m13_1 from (congrArg (fun q : Nat => (q : Int)) (eN13 2)).trans em13_1)
  have r15 : (-2147483648 : Int) ≤ y13_0_1 ∧ y13_0_1 ≤ 2147483647 := rngE (show (-2147483648 : Int) ≤ F13 1 1 ∧ F13 1 1 ≤ 2147483647 from H.krg 1 1 (ltn len_V219_Row_oz_D6cls rfl)) (show F13 1 1 = y13_0_1 from ((eF13 1 1).trans ey13_0_1))
  have hc46 : ∀ (ls : rO) (σ : rS) (D_c46 N_c46 : Nat → Nat) (c_c46 s_c46 : Nat) (F_c46 : hF) (A_c46 : hA) , rlook ls 0 = some (.ref (D_c46 0)) → rlook ls 1 = some (.ref (D_c46 1)) → HW V219_Row σ D_c46 N_c46 F_c46 A_c46 → OUT (V219_Row).length D N σE c s D_c46 N_c46 σ c_c46 s_c46 → SD [2] D13 D_c46 → SD [2] N13 N_c46 → SF [(1, 0), (1, 1), (1, 2)] F13 F_c46 → SA [2] A13 A_c46 → F_c46 1 0 = (D_c46 2 : Int) → ∀ mc46_2 : Int, (N_c46 2 : Int) = mc46_2 → ∀ yc46_1_1 : Int, F_c46 1 1 = yc46_1_1 → (0 ≤ (yc46_1_1) ∧ (yc46_1_1) ≤ (mc46_2) ∧ (mc46_2) ≤ 65536) → (4 ≤ (yc46_1_1) ∧ (yc46_1_1) ≤ 2000) → Ew 219 (d + 3) 46 ls [] σ c_c46 s_c46 Q := by
   as_aux_lemma =>
    intro  ls σ D_c46 N_c46 c_c46 s_c46 F_c46 A_c46  lc46_0 lc46_1 H O hD_c46 hN_c46 hS_c46 hA_c46 pmc46_2 mc46_2 emc46_2 yc46_1_1 eyc46_1_1  jc46_0 jc46_1
    have cF_c46 : SF oz_D6clsl_0 F F_c46 := SF_trans (cF13) hS_c46 (any_sub (by decide +kernel))
    have mF_c46 := SFm_of cF_c46 oz_D6cls_5
    have cA_c46 : SA oz_D6clsl_1 A A_c46 := SA_trans (cA13) hA_c46 (any_subA (by decide +kernel))
    have mA_c46 := SAm_of cA_c46 oz_D6cls_6
    have cD_c46 : SD oz_D6clsl_1 D D_c46 := SD_trans (cD13) hD_c46 (any_subA (by decide +kernel))
    have mD_c46 := SDm_of cD_c46 oz_D6cls_6
    have cN_c46 : SD oz_D6clsl_1 N N_c46 := SD_trans (cN13) hN_c46 (any_subA (by decide +kernel))
    have mN_c46 := SDm_of cN_c46 oz_D6cls_6
    have r16 : (0 : Int) ≤ mc46_2 ∧ mc46_2 ≤ 1000000 := nleE (H.nle 2 (ltn len_V219_Row_oz_D6cls rfl)) (show (N_c46 2 : Int) = mc46_2 from emc46_2)
    have r17 : (-2147483648 : Int) ≤ yc46_1_1 ∧ yc46_1_1 ≤ 2147483647 := rngE (show (-2147483648 : Int) ≤ F_c46 1 1 ∧ F_c46 1 1 ≤ 2147483647 from H.krg 1 1 (ltn len_V219_Row_oz_D6cls rfl)) (show F_c46 1 1 = yc46_1_1 from (eyc46_1_1))
    have hc67 : ∀ (ls : rO) (σ : rS) (D_c67 N_c67 : Nat → Nat) (c_c67 s_c67 : Nat) (F_c67 : hF) (A_c67 : hA) , rlook ls 1 = some (.ref (D_c67 1)) → HW V219_Row σ D_c67 N_c67 F_c67 A_c67 → OUT (V219_Row).length D N σE c s D_c67 N_c67 σ c_c67 s_c67 → SD [2] D_c46 D_c67 → SD [2] N_c46 N_c67 → SF [(1, 0), (1, 1), (1, 2)] F_c46 F_c67 → SA [2] A_c46 A_c67 → F_c67 1 0 = (D_c67 2 : Int) → ∀ mc67_2 : Int, (N_c67 2 : Int) = mc67_2 → ∀ yc67_1_1 : Int, F_c67 1 1 = yc67_1_1 → (0 ≤ (yc67_1_1) ∧ (yc67_1_1) ≤ (mc67_2) ∧ (mc67_2) ≤ 65536) → (4 ≤ (yc67_1_1) ∧ (yc67_1_1) ≤ 3000) → Ew 219 (d + 3) 67 ls [] σ c_c67 s_c67 Q := by
     as_aux_lemma =>
      intro  ls σ D_c67 N_c67 c_c67 s_c67 F_c67 A_c67  lc67_1 H O hD_c67 hN_c67 hS_c67 hA_c67 pmc67_2 mc67_2 emc67_2 yc67_1_1 eyc67_1_1  jc67_0 jc67_1
      have cF_c67 : SF oz_D6clsl_0 F F_c67 := SF_trans (cF_c46) hS_c67 (any_sub (by decide +kernel))
      have mF_c67 := SFm_of cF_c67 oz_D6cls_5
      have cA_c67 : SA oz_D6clsl_1 A A_c67 := SA_trans (cA_c46) hA_c67 (any_subA (by decide +kernel))
      have mA_c67 := SAm_of cA_c67 oz_D6cls_6
      have cD_c67 : SD oz_D6clsl_1 D D_c67 := SD_trans (cD_c46) hD_c67 (any_subA (by decide +kernel))
      have mD_c67 := SDm_of cD_c67 oz_D6cls_6
      have cN_c67 : SD oz_D6clsl_1 N N_c67 := SD_trans (cN_c46) hN_c67 (any_subA (by decide +kernel))
      have mN_c67 := SDm_of cN_c67 oz_D6cls_6
      have r18 : (0 : Int) ≤ mc67_2 ∧ mc67_2 ≤ 1000000 := nleE (H.nle 2 (ltn len_V219_Row_oz_D6cls rfl)) (show (N_c67 2 : Int) = mc67_2 from emc67_2)
      have r19 : (-2147483648 : Int) ≤ yc67_1_1 ∧ yc67_1_1 ≤ 2147483647 := rngE (show (-2147483648 : Int) ≤ F_c67 1 1 ∧ F_c67 1 1 ≤ 2147483647 from H.krg 1 1 (ltn len_V219_Row_oz_D6cls rfl)) (show F_c67 1 1 = yc67_1_1 from (eyc67_1_1))
      refine Ew_of (pcₚ := 68) (fun _ => x_aload_n rfl lc67_1) ?_
      refine Ew_of (pcₚ := 69) (fun _ => x_aload_n rfl lc67_1) ?_
      refine v_g H (o := 1) (v := .ref (D_c67 2)) rfl rfl rfl rfl rfl (vrf (pmc67_2)) ?_
      refine Ew_of (pcₚ := 73) (fun _ => x_iconst rfl) ?_
      refine Ew_of (pcₚ := 74) (fun _ => x_aload_n rfl lc67_1) ?_
      refine v_g H (o := 1) (v := I (yc67_1_1)) rfl rfl rfl rfl rfl (congrArg (fun z : Int => I z) ((eyc67_1_1) : F_c67 1 1 = yc67_1_1)) ?_
      refine Ew_of (pcₚ := 78) (fun _ => x_iconst rfl) ?_
      refine w_stat25 rfl rfl (by rfl) (C49_Br (D := puc 2 D_c67) (N := puc 2 N_c67) (HW_subc H oz_D6cls_4 oz_D6cls_8) (mc67_2) (emc67_2) (show inr (4) from q_2) (show inr (yc67_1_1) from q_3028 jc67_1) (show inr (0) from q_20) (show 0 ≤ (4) ∧ (4) ≤ (yc67_1_1) ∧ (yc67_1_1) ≤ (mc67_2) from q_3027 jc67_0 jc67_1) (fun z20 σ20 F20ₚ A20ₚ Hₚ Oₚ hS20 hA20 pz20_0 => ⟨rfl, ?_⟩))
      refine v_backc (c := c_c67) (s := s_c67) H oz_D6cls_4 oz_D6cls_8 Hₚ Oₚ (fun F20 A20 H Oₚ eF20 eA20 => ?_)
      have O := OUT_trans O Oₚ
      -- PackHouse.narrowSum
      have cF20 : SF oz_D6clsl_0 F F20 := SF_trans (cF_c67) (SF_gluc (ι := oz_D6clsl_1) oz_D6cls_8 hS20 eF20 (by decide +kernel)) (any_sub (lₚ := []) (by decide +kernel))
      have mF20 := SFm_of cF20 oz_D6cls_5
      have cA20 : SA oz_D6clsl_1 A A20 := SA_trans (cA_c67) (SA_gluc (ι := oz_D6clsl_1) oz_D6cls_8 hA20 eA20 (by decide +kernel)) (any_subA (lₚ := []) (by decide +kernel))
      have mA20 := SAm_of cA20 oz_D6cls_6
      refine Ew_of (pcₚ := 83) (fun _ => x_bipush (z := 8) rfl (by decide)) ?_
      refine w_iushrA rfl (fun z21 gz21 => ?_)
      refine v_inv H (o := 1) rfl rfl rfl rfl rfl rfl (by rfl) (C159 (D := puc 1025 D_c67) (N := puc 1025 N_c67) (HW_subc H oz_D6cls_3 oz_D6cls_7) ((((show F20 1 0 = F_c67 1 0 from (eF20 1 0)))).trans (pmc67_2)) (mc67_2) (emc67_2) (yc67_1_1) ((((show F20 1 1 = F_c67 1 1 from (eF20 1 1))).trans (eyc67_1_1))) (show inr (z21) from gz21) (show 0 ≤ (yc67_1_1) ∧ (yc67_1_1) ≤ (mc67_2) ∧ (mc67_2) ≤ 65536 from jc67_0) (fun σ22 D22ₚ N22ₚ F22ₚ A22ₚ c22 s22 Hₚ Oₚ hD22 hN22 hS22 hA22 pm22_1 m22_1 em22_1 y22_0_1 ey22_0_1 pz22_0 pz22_1 pz22_2 => ⟨rfl, ?_⟩))
      refine v_backMc (c := c_c67) (s := s_c67) H oz_D6cls_3 oz_D6cls_7 Hₚ Oₚ hD22 oz_D6cls_2 (fun D22 N22 F22 A22 H Oₚ eD22 eN22 eF22 eA22 => ?_)
      have O := OUT_trans O Oₚ
      -- Row.add
      have cF22 : SF oz_D6clsl_0 F F22 := SF_trans (cF20) (SF_gluc (ι := oz_D6clsl_2) oz_D6cls_7 hS22 eF22 (by decide +kernel)) (any_sub (lₚ := [(1, 0), (1, 1), (1, 2)]) (by decide +kernel))
      have mF22 := SFm_of cF22 oz_D6cls_5
      have cA22 : SA oz_D6clsl_1 A A22 := SA_trans (cA20) (SA_gluc (ι := oz_D6clsl_2) oz_D6cls_7 hA22 eA22 (by decide +kernel)) (any_subA (lₚ := [2]) (by decide +kernel))
      have mA22 := SAm_of cA22 oz_D6cls_6
      have cD22 : SD oz_D6clsl_1 D D22 := SD_trans (cD_c67) (SD_gluc (ι := oz_D6clsl_2) oz_D6cls_7 hD22 eD22 (by decide +kernel)) (any_subA (lₚ := [2]) (by decide +kernel))
      have mD22 := SDm_of cD22 oz_D6cls_6
      have cN22 : SD oz_D6clsl_1 N N22 := SD_trans (cN_c67) (SD_gluc (ι := oz_D6clsl_2) oz_D6cls_7 hN22 eN22 (by decide +kernel)) (any_subA (lₚ := [2]) (by decide +kernel))
      have mN22 := SDm_of cN22 oz_D6cls_6
      have pf22_1_0 : F22 1 0 = (D22 2 : Int) := (eF22 1 0).trans (pm22_1.trans (congrArg (fun q : Nat => (q : Int)) (eD22 2).symm))
      have r23 : (0 : Int) ≤ m22_1 ∧ m22_1 ≤ 1000000 := nleE (H.nle 2 (ltn len_V219_Row_oz_D6cls rfl)) (show (N22 2 : Int) = m22_1 from (congrArg (fun q : Nat => (q : Int)) (eN22 2)).trans em22_1)
      have r24 : (-2147483648 : Int) ≤ y22_0_1 ∧ y22_0_1 ≤ 2147483647 := rngE (show (-2147483648 : Int) ≤ F22 1 1 ∧ F22 1 1 ≤ 2147483647 from H.krg 1 1 (ltn len_V219_Row_oz_D6cls rfl)) (show F22 1 1 = y22_0_1 from ((eF22 1 1).trans ey22_0_1))
      exact w_ret rfl (k _ _ _ _ _ _ _ H O (cD22) (cN22) (cF22) (cA22) (pf22_1_0) (m22_1) ((congrArg (fun q : Nat => (q : Int)) (eN22 2)).trans em22_1) (y22_0_1) (((eF22 1 1).trans ey22_0_1)) (show 0 ≤ (y22_0_1) ∧ (y22_0_1) ≤ (m22_1) ∧ (m22_1) ≤ 65536 from pz22_0))
    refine Ew_of (pcₚ := 47) (fun _ => x_aload_n rfl lc46_0) ?_
    refine v_g H (o := 0) (v := I (F 0 8)) rfl rfl rfl rfl rfl (congrArg (fun z : Int => I z) ((mF_c46 0 8 rfl) : F_c46 0 8 = F 0 8)) ?_
    refine Ew_of (pcₚ := 51) (fun _ => x_iconst rfl) ?_
    refine w_iand rfl (show inr (F 0 8) from q_22 r7) (show inr (1) from q_23) (fun z25 gz25 gaz25 gbz25 => ?_)
    refine w_ifeq (t := 67) rfl rfl (show inr (z25) from gz25) (fun b26 => ?_) (fun b26 => ?_)
    · exact hc67  _ _ _ _ _ _ _ _  (lc46_1) H O (SD_refl) (SD_refl) (SF_refl) (SA_refl) (pmc46_2) (mc46_2) (emc46_2) (yc46_1_1) ((eyc46_1_1))  (show 0 ≤ (yc46_1_1) ∧ (yc46_1_1) ≤ (mc46_2) ∧ (mc46_2) ≤ 65536 from jc46_0) (show 4 ≤ (yc46_1_1) ∧ (yc46_1_1) ≤ 3000 from q_3029 jc46_1)
    · refine Ew_of (pcₚ := 56) (fun _ => x_aload_n rfl lc46_1) ?_
      refine Ew_of (pcₚ := 57) (fun _ => x_aload_n rfl lc46_0) ?_
      refine v_g H (o := 0) (v := .ref (D_c46 3)) rfl rfl rfl rfl rfl (vrf ((mF_c46 0 0 rfl).trans ((pf3).trans (congrArg (fun q : Nat => (q : Int)) (mD_c46 3 rfl).symm)))) ?_
      refine Ew_of (pcₚ := 61) (fun _ => x_iconst rfl) ?_
      refine v_lI H (o := 3) rfl rfl rfl rfl (n := n3) ((congrArg (fun q : Nat => (q : Int)) (mN_c46 3 rfl)).trans (en3)) (show 0 ≤ 5 ∧ 5 < n3 from q_3030 h3 r3) (fun v27 ev27 qv27 => ?_)
      have ev27 : (A 3) (5) = v27 := (congrFun (funext (mA_c46 3 rfl)) (5)).symm.trans ev27
      refine w_i2l rfl (show inr (v27) from qv27) ?_
      refine Ew_of (pcₚ := 64) (fun _ => x_iconst rfl) ?_
      refine v_inv H (o := 1) rfl rfl rfl rfl rfl rfl (by rfl) (C160 (D := puc 1025 D_c46) (N := puc 1025 N_c46) (HW_subc H oz_D6cls_1 oz_D6cls_7) (pmc46_2) (mc46_2) (emc46_2) (yc46_1_1) ((eyc46_1_1)) (show inrJ (v27) from q_428 qv27) (show inr (4) from q_2) (show 0 ≤ (yc46_1_1) ∧ (yc46_1_1) ≤ (mc46_2) ∧ (mc46_2) ≤ 65536 from jc46_0) (fun σ28 D28ₚ N28ₚ F28ₚ A28ₚ c28 s28 Hₚ Oₚ hD28 hN28 hS28 hA28 pm28_1 m28_1 em28_1 y28_0_1 ey28_0_1 pz28_0 pz28_1 => ⟨rfl, ?_⟩))
      refine v_backMc (c := c_c46) (s := s_c46) H oz_D6cls_1 oz_D6cls_7 Hₚ Oₚ hD28 oz_D6cls_2 (fun D28 N28 F28 A28 H Oₚ eD28 eN28 eF28 eA28 => ?_)
      have O := OUT_trans O Oₚ
      -- Row.addNumber
      have cF28 : SF oz_D6clsl_0 F F28 := SF_trans (cF_c46) (SF_gluc (ι := oz_D6clsl_2) oz_D6cls_7 hS28 eF28 (by decide +kernel)) (any_sub (lₚ := [(1, 0), (1, 1), (1, 2)]) (by decide +kernel))
      have mF28 := SFm_of cF28 oz_D6cls_5
      have cA28 : SA oz_D6clsl_1 A A28 := SA_trans (cA_c46) (SA_gluc (ι := oz_D6clsl_2) oz_D6cls_7 hA28 eA28 (by decide +kernel)) (any_subA (lₚ := [2]) (by decide +kernel))
      have mA28 := SAm_of cA28 oz_D6cls_6
      have cD28 : SD oz_D6clsl_1 D D28 := SD_trans (cD_c46) (SD_gluc (ι := oz_D6clsl_2) oz_D6cls_7 hD28 eD28 (by decide +kernel)) (any_subA (lₚ := [2]) (by decide +kernel))
      have mD28 := SDm_of cD28 oz_D6cls_6
      have cN28 : SD oz_D6clsl_1 N N28 := SD_trans (cN_c46) (SD_gluc (ι := oz_D6clsl_2) oz_D6cls_7 hN28 eN28 (by decide +kernel)) (any_subA (lₚ := [2]) (by decide +kernel))
      have mN28 := SDm_of cN28 oz_D6cls_6
      have pf28_1_0 : F28 1 0 = (D28 2 : Int) := (eF28 1 0).trans (pm28_1.trans (congrArg (fun q : Nat => (q : Int)) (eD28 2).symm))
      have r29 : (0 : Int) ≤ m28_1 ∧ m28_1 ≤ 1000000 := nleE (H.nle 2 (ltn len_V219_Row_oz_D6cls rfl)) (show (N28 2 : Int) = m28_1 from (congrArg (fun q : Nat => (q : Int)) (eN28 2)).trans em28_1)
      have r30 : (-2147483648 : Int) ≤ y28_0_1 ∧ y28_0_1 ≤ 2147483647 := rngE (show (-2147483648 : Int) ≤ F28 1 1 ∧ F28 1 1 ≤ 2147483647 from H.krg 1 1 (ltn len_V219_Row_oz_D6cls rfl)) (show F28 1 1 = y28_0_1 from ((eF28 1 1).trans ey28_0_1))
      exact hc67  _ _ _ _ _ _ _ _  ((lc46_1).trans (congrArg (fun q : Nat => some (Value.ref q)) (((show D28 1 = D_c46 1 from (eD28 1).trans (hD28 0 rfl)))).symm)) H O (SD_trans (SD_refl) (SD_gluc (ι := oz_D6clsl_2) oz_D6cls_7 hD28 eD28 (by decide +kernel)) (any_subA (lₚ := [2]) (by decide +kernel))) (SD_trans (SD_refl) (SD_gluc (ι := oz_D6clsl_2) oz_D6cls_7 hN28 eN28 (by decide +kernel)) (any_subA (lₚ := [2]) (by decide +kernel))) (SF_trans (SF_refl) (SF_gluc (ι := oz_D6clsl_2) oz_D6cls_7 hS28 eF28 (by decide +kernel)) (any_sub (lₚ := [(1, 0), (1, 1), (1, 2)]) (by decide +kernel))) (SA_trans (SA_refl) (SA_gluc (ι := oz_D6clsl_2) oz_D6cls_7 hA28 eA28 (by decide +kernel)) (any_subA (lₚ := [2]) (by decide +kernel))) (pf28_1_0) (m28_1) ((congrArg (fun q : Nat => (q : Int)) (eN28 2)).trans em28_1) (y28_0_1) (((eF28 1 1).trans ey28_0_1))  (show 0 ≤ (y28_0_1) ∧ (y28_0_1) ≤ (m28_1) ∧ (m28_1) ≤ 65536 from pz28_0) (show 4 ≤ (y28_0_1) ∧ (y28_0_1) ≤ 3000 by omega)
  refine Ew_of (pcₚ := 29) (fun _ => x_aload_n rfl rfl) ?_
  refine Ew_stk (congrArg (fun qz : Nat => ([.ref qz] : List Value)) (show D13 0 = D 0 from mD13 0 rfl).symm) ?_
  refine v_g H (o := 0) (v := I (F 0 8)) rfl rfl rfl rfl rfl (congrArg (fun z : Int => I z) ((mF13 0 8 rfl) : F13 0 8 = F 0 8)) ?_
  refine Ew_of (pcₚ := 34) (fun _ => x_bipush (z := 8) rfl (by decide)) ?_
  refine w_iand rfl (show inr (F 0 8) from q_22 r7) (show inr (8) from q_96) (fun z31 gz31 gaz31 gbz31 => ?_)
  refine w_ifeq (t := 46) rfl rfl (show inr (z31) from gz31) (fun b32 => ?_) (fun b32 => ?_)
  · exact hc46  _ _ _ _ _ _ _ _  ((rfl).trans (congrArg (fun q : Nat => some (Value.ref q)) (mD13 0 rfl).symm)) ((rfl).trans (congrArg (fun q : Nat => some (Value.ref q)) (mD13 1 rfl).symm)) H O (SD_refl) (SD_refl) (SF_refl) (SA_refl) (pf13_1_0) (m13_1) ((congrArg (fun q : Nat => (q : Int)) (eN13 2)).trans em13_1) (y13_0_1) (((eF13 1 1).trans ey13_0_1))  (show 0 ≤ (y13_0_1) ∧ (y13_0_1) ≤ (m13_1) ∧ (m13_1) ≤ 65536 from pz13_0) (show 4 ≤ (y13_0_1) ∧ (y13_0_1) ≤ 2000 by omega)
  · refine Ew_of (pcₚ := 39) (fun _ => x_aload_n rfl rfl) ?_
    refine Ew_of (pcₚ := 40) (fun _ => x_iload_n rfl rfl) ?_
    refine w_i2l rfl (show inr (a2) from h0) ?_
    refine Ew_of (pcₚ := 43) (fun _ => x_bipush (z := 8) rfl (by decide)) ?_
    refine Ew_stk (congrArg (fun qz : Nat => ([I (8), J (a2), .ref qz] : List Value)) (show D13 1 = D 1 from mD13 1 rfl).symm) ?_
    refine v_inv H (o := 1) rfl rfl rfl rfl rfl rfl (by rfl) (C160 (D := puc 1025 D13) (N := puc 1025 N13) (HW_subc H oz_D6cls_1 oz_D6cls_7) (pf13_1_0) (m13_1) ((congrArg (fun q : Nat => (q : Int)) (eN13 2)).trans em13_1) (y13_0_1) (((eF13 1 1).trans ey13_0_1)) (show inrJ (a2) from q_428 h0) (show inr (8) from q_96) (show 0 ≤ (y13_0_1) ∧ (y13_0_1) ≤ (m13_1) ∧ (m13_1) ≤ 65536 from pz13_0) (fun σ33 D33ₚ N33ₚ F33ₚ A33ₚ c33 s33 Hₚ Oₚ hD33 hN33 hS33 hA33 pm33_1 m33_1 em33_1 y33_0_1 ey33_0_1 pz33_0 pz33_1 => ⟨rfl, ?_⟩))
    refine v_backMc (c := (((c + c4) + c8) + c13)) (s := (((s + s4) + s8) + s13)) H oz_D6cls_1 oz_D6cls_7 Hₚ Oₚ hD33 oz_D6cls_2 (fun D33 N33 F33 A33 H Oₚ eD33 eN33 eF33 eA33 => ?_)
    have O := OUT_trans O Oₚ
    -- Row.addNumber
    have cF33 : SF oz_D6clsl_0 F F33 := SF_trans (cF13) (SF_gluc (ι := oz_D6clsl_2) oz_D6cls_7 hS33 eF33 (by decide +kernel)) (any_sub (lₚ := [(1, 0), (1, 1), (1, 2)]) (by decide +kernel))
    have mF33 := SFm_of cF33 oz_D6cls_5
    have cA33 : SA oz_D6clsl_1 A A33 := SA_trans (cA13) (SA_gluc (ι := oz_D6clsl_2) oz_D6cls_7 hA33 eA33 (by decide +kernel)) (any_subA (lₚ := [2]) (by decide +kernel))
    have mA33 := SAm_of cA33 oz_D6cls_6
    have cD33 : SD oz_D6clsl_1 D D33 := SD_trans (cD13) (SD_gluc (ι := oz_D6clsl_2) oz_D6cls_7 hD33 eD33 (by decide +kernel)) (any_subA (lₚ := [2]) (by decide +kernel))
    have mD33 := SDm_of cD33 oz_D6cls_6
    have cN33 : SD oz_D6clsl_1 N N33 := SD_trans (cN13) (SD_gluc (ι := oz_D6clsl_2) oz_D6cls_7 hN33 eN33 (by decide +kernel)) (any_subA (lₚ := [2]) (by decide +kernel))
    have mN33 := SDm_of cN33 oz_D6cls_6
    have pf33_1_0 : F33 1 0 = (D33 2 : Int) := (eF33 1 0).trans (pm33_1.trans (congrArg (fun q : Nat => (q : Int)) (eD33 2).symm))
    have r34 : (0 : Int) ≤ m33_1 ∧ m33_1 ≤ 1000000 := nleE (H.nle 2 (ltn len_V219_Row_oz_D6cls rfl)) (show (N33 2 : Int) = m33_1 from (congrArg (fun q : Nat => (q : Int)) (eN33 2)).trans em33_1)
    have r35 : (-2147483648 : Int) ≤ y33_0_1 ∧ y33_0_1 ≤ 2147483647 := rngE (show (-2147483648 : Int) ≤ F33 1 1 ∧ F33 1 1 ≤ 2147483647 from H.krg 1 1 (ltn len_V219_Row_oz_D6cls rfl)) (show F33 1 1 = y33_0_1 from ((eF33 1 1).trans ey33_0_1))
    exact hc46  _ _ _ _ _ _ _ _  ((rfl).trans (congrArg (fun q : Nat => some (Value.ref q)) (mD33 0 rfl).symm)) ((rfl).trans (congrArg (fun q : Nat => some (Value.ref q)) (mD33 1 rfl).symm)) H O (SD_trans (SD_refl) (SD_gluc (ι := oz_D6clsl_2) oz_D6cls_7 hD33 eD33 (by decide +kernel)) (any_subA (lₚ := [2]) (by decide +kernel))) (SD_trans (SD_refl) (SD_gluc (ι := oz_D6clsl_2) oz_D6cls_7 hN33 eN33 (by decide +kernel)) (any_subA (lₚ := [2]) (by decide +kernel))) (SF_trans (SF_refl) (SF_gluc (ι := oz_D6clsl_2) oz_D6cls_7 hS33 eF33 (by decide +kernel)) (any_sub (lₚ := [(1, 0), (1, 1), (1, 2)]) (by decide +kernel))) (SA_trans (SA_refl) (SA_gluc (ι := oz_D6clsl_2) oz_D6cls_7 hA33 eA33 (by decide +kernel)) (any_subA (lₚ := [2]) (by decide +kernel))) (pf33_1_0) (m33_1) ((congrArg (fun q : Nat => (q : Int)) (eN33 2)).trans em33_1) (y33_0_1) (((eF33 1 1).trans ey33_0_1))  (show 0 ≤ (y33_0_1) ∧ (y33_0_1) ≤ (m33_1) ∧ (m33_1) ≤ 65536 from pz33_0) (show 4 ≤ (y33_0_1) ∧ (y33_0_1) ≤ 2000 by omega)
abbrev V220_Row_Row : vV := [(0, 11, [(4, 0), (4, 0), (4, 0), (4, 0), (4, 0), (0, 0), (4, 0), (0, 0), (0, 0), (0, 0), (0, 0), (0, 0), (0, 0)]), (0, 7, [(4, 0), (0, 0), (1, 0), (0, 0), (0, 0)]), (0, 7, [(4, 0), (0, 0), (1, 0), (0, 0), (0, 0)]), (1, 0, []), (1, 0, [])]
theorem len_V220_Row_Row_oz_D6cls : (V220_Row_Row).length = 5 := by decide +kernel
theorem oz_D6cls_10 : vsub V220_Row_Row V160 [1, 3] = true := by decide +kernel
theorem oz_D6cls_11 : vmov V220_Row_Row [1, 3] [1] = true := by decide +kernel
theorem oz_D6cls_12 : vsub V220_Row_Row V161_Br [1, 4, 3] = true := by decide +kernel
theorem oz_D6cls_13 : vmov V220_Row_Row [1, 4, 3] [2] = true := by decide +kernel
theorem oz_D6cls_14 : vsub V220_Row_Row V49_Br [4] = true := by decide +kernel
def oz_D6clsl_3 : List Nat := [3]
theorem oz_D6cls_15 : (oz_D6clsl_3).all (fun p => !tbz 8 p) = true := by decide +kernel
def oz_D6clsl_4 : List Nat := [1, 3]
theorem oz_D6cls_16 : okc oz_D6clsl_4 1537 = true := by decide +kernel
def oz_D6clsl_5 : List Nat := [1, 4, 3]
theorem oz_D6cls_17 : okc oz_D6clsl_5 788481 = true := by decide +kernel
def oz_D6clsl_6 : List Nat := [4]
theorem oz_D6cls_18 : okc oz_D6clsl_6 4 = true := by decide +kernel
/-- Tokens.addBlock: this, #1, #2, #1.bytes, #2.bytes -/
theorem C220_Row_Row {σE : rS} {D N : Nat → Nat} {F : hF} {A : hA} {d c s : Nat} {Q : wQ} (H : HW V220_Row_Row σE D N F A) {a3 a4 : Int} (pf3 : F 1 0 = (D 3 : Int)) (pf4 : F 2 0 = (D 4 : Int)) (n3 : Int) (en3 : (N 3 : Int) = n3) (n4 : Int) (en4 : (N 4 : Int) = n4) (u1_1 : Int) (eu1_1 : F 1 1 = u1_1) (u2_1 : Int) (eu2_1 : F 2 1 = u2_1) (h0 : inr (a3)) (h1 : inr (a4)) (h2 : (a4) = 0 ∨ (a4) = 1) (h3 : 0 ≤ (u1_1) ∧ (u1_1) ≤ (n3) ∧ (n3) ≤ 65536) (h4 : 0 ≤ (u2_1) ∧ (u2_1) ≤ (n4) ∧ (n4) ≤ 65536) (h5 : 0 ≤ (a3) ∧ (a3) ≤ (u2_1)) (k : ∀ (σ : rS) (Dₚ Nₚ : Nat → Nat) (Fₚ : hF) (Aₚ : hA) (cₚ sₚ : Nat), HW V220_Row_Row σ Dₚ Nₚ Fₚ Aₚ → OUT (V220_Row_Row).length D N σE c s Dₚ Nₚ σ cₚ sₚ → SD [3] D Dₚ → SD [3] N Nₚ → SF [(1, 0), (1, 1), (1, 2)] F Fₚ → SA [3] A Aₚ → Fₚ 1 0 = (Dₚ 3 : Int) → ∀ m3 : Int, (Nₚ 3 : Int) = m3 → ∀ y1_1 : Int, Fₚ 1 1 = y1_1 → (0 ≤ (y1_1) ∧ (y1_1) ≤ (m3) ∧ (m3) ≤ 65536) → Q none σ cₚ sₚ) : Ew 220 (d + 3) 0 (rargs 0 [.ref (D 0), .ref (D 1), .ref (D 2), I a3, I a4]) [] σE c s Q := by
  have O := OUT_refl (n := (V220_Row_Row).length) (D := D) (N := N) (σ := σE) (c := c) (s := s)
  have HE := H
  have r1 : (-2147483648 : Int) ≤ u1_1 ∧ u1_1 ≤ 2147483647 := rngE (show (-2147483648 : Int) ≤ F 1 1 ∧ F 1 1 ≤ 2147483647 from H.krg 1 1 (ltn len_V220_Row_Row_oz_D6cls rfl)) (show F 1 1 = u1_1 from (eu1_1))
  have r2 : (-2147483648 : Int) ≤ u2_1 ∧ u2_1 ≤ 2147483647 := rngE (show (-2147483648 : Int) ≤ F 2 1 ∧ F 2 1 ≤ 2147483647 from H.krg 2 1 (ltn len_V220_Row_Row_oz_D6cls rfl)) (show F 2 1 = u2_1 from (eu2_1))
  have r3 : (0 : Int) ≤ n3 ∧ n3 ≤ 1000000 := nleE (H.nle 3 (ltn len_V220_Row_Row_oz_D6cls rfl)) (show (N 3 : Int) = n3 from en3)
  have r4 : (0 : Int) ≤ n4 ∧ n4 ≤ 1000000 := nleE (H.nle 4 (ltn len_V220_Row_Row_oz_D6cls rfl)) (show (N 4 : Int) = n4 from en4)
  refine Ew_of (pcₚ := 1) (fun _ => x_aload_n rfl rfl) ?_
  refine v_g H (o := 2) (v := I (u2_1)) rfl rfl rfl rfl rfl (congrArg (fun z : Int => I z) ((eu2_1) : F 2 1 = u2_1)) ?_
  refine Ew_of (pcₚ := 5) (fun _ => x_iload_n rfl rfl) ?_
  refine w_isub rfl ?_
  refine Ew_of (pcₚ := 8) (fun _ => x_istore rfl) ?_
  refine Ew_of (pcₚ := 9) (fun _ => x_aload_n rfl (rk_o (rfl) rfl rfl)) ?_
  have hc26 : ∀ (tc26_0 : Int), ∀ (ls : rO) (σ : rS) (F_c26 : hF) (A_c26 : hA) , rlook ls 0 = some (.ref (D 0)) → rlook ls 1 = some (.ref (D 1)) → rlook ls 2 = some (.ref (D 2)) → rlook ls 3 = some (I (a3)) → rlook ls 5 = some (I ((u2_1 - a3))) → HW V220_Row_Row σ D N F_c26 A_c26 → OUT (V220_Row_Row).length D N σE c s D N σ c s → SF [] F F_c26 → SA [] A A_c26 → (inrJ (tc26_0)) → Ew 220 (d + 3) 26 ls [J (tc26_0), .ref (D 1)] σ c s Q := by
   as_aux_lemma =>
    intro tc26_0 ls σ F_c26 A_c26  lc26_0 lc26_1 lc26_2 lc26_3 lc26_5 H O hS_c26 hA_c26     jc26_0
    have cF_c26 : SF oz_D6clsl_0 F F_c26 := SF_trans (SF_refl) hS_c26 (any_sub (by decide +kernel))
    have mF_c26 := SFm_of cF_c26 oz_D6cls_5
    have cA_c26 : SA oz_D6clsl_3 A A_c26 := SA_trans (SA_refl) hA_c26 (any_subA (by decide +kernel))
    have mA_c26 := SAm_of cA_c26 oz_D6cls_15
    refine Ew_of (pcₚ := 27) (fun _ => x_iconst rfl) ?_
    refine v_inv H (o := 1) rfl rfl rfl rfl rfl rfl (by rfl) (C160 (D := puc 1537 D) (N := puc 1537 N) (HW_subc H oz_D6cls_10 oz_D6cls_16) (((hS_c26 1 0 rfl)).trans (pf3)) (n3) (en3) (u1_1) (((hS_c26 1 1 rfl).trans (eu1_1))) (show inrJ (tc26_0) from jc26_0) (show inr (4) from q_2) (show 0 ≤ (u1_1) ∧ (u1_1) ≤ (n3) ∧ (n3) ≤ 65536 from h3) (fun σ5 D5ₚ N5ₚ F5ₚ A5ₚ c5 s5 Hₚ Oₚ hD5 hN5 hS5 hA5 pm5_1 m5_1 em5_1 y5_0_1 ey5_0_1 pz5_0 pz5_1 => ⟨rfl, ?_⟩))
    refine v_backMc (c := c) (s := s) H oz_D6cls_10 oz_D6cls_16 Hₚ Oₚ hD5 oz_D6cls_11 (fun D5 N5 F5 A5 H Oₚ eD5 eN5 eF5 eA5 => ?_)
    have O := OUT_trans O Oₚ
    -- Row.addNumber
    have cF5 : SF oz_D6clsl_0 F F5 := SF_trans (cF_c26) (SF_gluc (ι := oz_D6clsl_4) oz_D6cls_16 hS5 eF5 (by decide +kernel)) (any_sub (lₚ := [(1, 0), (1, 1), (1, 2)]) (by decide +kernel))
    have mF5 := SFm_of cF5 oz_D6cls_5
    have cA5 : SA oz_D6clsl_3 A A5 := SA_trans (cA_c26) (SA_gluc (ι := oz_D6clsl_4) oz_D6cls_16 hA5 eA5 (by decide +kernel)) (any_subA (lₚ := [3]) (by decide +kernel))
    have mA5 := SAm_of cA5 oz_D6cls_15
    have cD5 : SD oz_D6clsl_3 D D5 := SD_trans (SD_refl) (SD_gluc (ι := oz_D6clsl_4) oz_D6cls_16 hD5 eD5 (by decide +kernel)) (any_subA (lₚ := [3]) (by decide +kernel))
    have mD5 := SDm_of cD5 oz_D6cls_15
    have cN5 : SD oz_D6clsl_3 N N5 := SD_trans (SD_refl) (SD_gluc (ι := oz_D6clsl_4) oz_D6cls_16 hN5 eN5 (by decide +kernel)) (any_subA (lₚ := [3]) (by decide +kernel))
    have mN5 := SDm_of cN5 oz_D6cls_15
    have pf5_1_0 : F5 1 0 = (D5 3 : Int) := (eF5 1 0).trans (pm5_1.trans (congrArg (fun q : Nat => (q : Int)) (eD5 3).symm))
    have r6 : (0 : Int) ≤ m5_1 ∧ m5_1 ≤ 1000000 := nleE (H.nle 3 (ltn len_V220_Row_Row_oz_D6cls rfl)) (show (N5 3 : Int) = m5_1 from (congrArg (fun q : Nat => (q : Int)) (eN5 3)).trans em5_1)
    have r7 : (-2147483648 : Int) ≤ y5_0_1 ∧ y5_0_1 ≤ 2147483647 := rngE (show (-2147483648 : Int) ≤ F5 1 1 ∧ F5 1 1 ≤ 2147483647 from H.krg 1 1 (ltn len_V220_Row_Row_oz_D6cls rfl)) (show F5 1 1 = y5_0_1 from ((eF5 1 1).trans ey5_0_1))
    refine Ew_of (pcₚ := 31) (fun _ => x_aload_n rfl lc26_1) ?_
    refine Ew_of (pcₚ := 32) (fun _ => x_aload_n rfl lc26_2) ?_
    refine Ew_stk (show ([.ref (D 2), .ref (D 1)] : List Value) = [.ref (D5 2), .ref (D5 1)] by rw [show D5 1 = D 1 from mD5 1 rfl, show D5 2 = D 2 from mD5 2 rfl]) ?_
    refine v_g H (o := 2) (v := .ref (D5 4)) rfl rfl rfl rfl rfl (vrf ((mF5 2 0 rfl).trans ((pf4).trans (congrArg (fun q : Nat => (q : Int)) (mD5 4 rfl).symm)))) ?_
    refine Ew_of (pcₚ := 36) (fun _ => x_iload_n rfl lc26_3) ?_
    refine Ew_of (pcₚ := 38) (fun _ => x_iload rfl lc26_5) ?_
    refine v_inv H (o := 1) rfl rfl rfl rfl rfl rfl (by rfl) (C161_Br (D := puc 788481 D5) (N := puc 788481 N5) (HW_subc H oz_D6cls_12 oz_D6cls_17) (pf5_1_0) (n4) ((congrArg (fun q : Nat => (q : Int)) (mN5 4 rfl)).trans (en4)) (m5_1) ((congrArg (fun q : Nat => (q : Int)) (eN5 3)).trans em5_1) (y5_0_1) (((eF5 1 1).trans ey5_0_1)) (A5 3) (rfl) (show inr (a3) from h0) (show inr ((u2_1 - a3)) from q_2616 h4 h5) (show 0 ≤ (y5_0_1) ∧ (y5_0_1) ≤ (m5_1) ∧ (m5_1) ≤ 65536 from pz5_0) (show ((u2_1 - a3)) < 0 ∨ 0 ≤ (a3) ∧ (a3) + ((u2_1 - a3)) ≤ (n4) from q_3031 h4 h5) (fun σ8 D8ₚ N8ₚ F8ₚ A8ₚ c8 s8 Hₚ Oₚ hD8 hN8 hS8 hA8 pm8_2 m8_2 em8_2 y8_0_1 ey8_0_1 w8_2 ew8_2 pz8_0 pz8_1 pz8_2 => ⟨rfl, ?_⟩))
    refine v_backMc (c := (c + c5)) (s := (s + s5)) H oz_D6cls_12 oz_D6cls_17 Hₚ Oₚ hD8 oz_D6cls_13 (fun D8 N8 F8 A8 H Oₚ eD8 eN8 eF8 eA8 => ?_)
    have O := OUT_trans O Oₚ
    -- Row.addPart
    have cF8 : SF oz_D6clsl_0 F F8 := SF_trans (cF5) (SF_gluc (ι := oz_D6clsl_5) oz_D6cls_17 hS8 eF8 (by decide +kernel)) (any_sub (lₚ := [(1, 0), (1, 1), (1, 2)]) (by decide +kernel))
    have mF8 := SFm_of cF8 oz_D6cls_5
    have cA8 : SA oz_D6clsl_3 A A8 := SA_trans (cA5) (SA_gluc (ι := oz_D6clsl_5) oz_D6cls_17 hA8 eA8 (by decide +kernel)) (any_subA (lₚ := [3]) (by decide +kernel))
    have mA8 := SAm_of cA8 oz_D6cls_15
    have cD8 : SD oz_D6clsl_3 D D8 := SD_trans (cD5) (SD_gluc (ι := oz_D6clsl_5) oz_D6cls_17 hD8 eD8 (by decide +kernel)) (any_subA (lₚ := [3]) (by decide +kernel))
    have mD8 := SDm_of cD8 oz_D6cls_15
    have cN8 : SD oz_D6clsl_3 N N8 := SD_trans (cN5) (SD_gluc (ι := oz_D6clsl_5) oz_D6cls_17 hN8 eN8 (by decide +kernel)) (any_subA (lₚ := [3]) (by decide +kernel))
    have mN8 := SDm_of cN8 oz_D6cls_15
    have pf8_1_0 : F8 1 0 = (D8 3 : Int) := (eF8 1 0).trans (pm8_2.trans (congrArg (fun q : Nat => (q : Int)) (eD8 3).symm))
    have r9 : (0 : Int) ≤ m8_2 ∧ m8_2 ≤ 1000000 := nleE (H.nle 3 (ltn len_V220_Row_Row_oz_D6cls rfl)) (show (N8 3 : Int) = m8_2 from (congrArg (fun q : Nat => (q : Int)) (eN8 3)).trans em8_2)
    have r10 : (-2147483648 : Int) ≤ y8_0_1 ∧ y8_0_1 ≤ 2147483647 := rngE (show (-2147483648 : Int) ≤ F8 1 1 ∧ F8 1 1 ≤ 2147483647 from H.krg 1 1 (ltn len_V220_Row_Row_oz_D6cls rfl)) (show F8 1 1 = y8_0_1 from ((eF8 1 1).trans ey8_0_1))
    have hc70 : ∀ (ls : rO) (σ : rS) (D_c70 N_c70 : Nat → Nat) (c_c70 s_c70 : Nat) (F_c70 : hF) (A_c70 : hA) , HW V220_Row_Row σ D_c70 N_c70 F_c70 A_c70 → OUT (V220_Row_Row).length D N σE c s D_c70 N_c70 σ c_c70 s_c70 → SD [3] D8 D_c70 → SD [3] N8 N_c70 → SF [(1, 0), (1, 1), (1, 2)] F8 F_c70 → SA [3] A8 A_c70 → F_c70 1 0 = (D_c70 3 : Int) → ∀ mc70_3 : Int, (N_c70 3 : Int) = mc70_3 → ∀ yc70_1_1 : Int, F_c70 1 1 = yc70_1_1 → (0 ≤ (yc70_1_1) ∧ (yc70_1_1) ≤ (mc70_3) ∧ (mc70_3) ≤ 65536) → Ew 220 (d + 3) 70 ls [] σ c_c70 s_c70 Q := by
     as_aux_lemma =>
      intro  ls σ D_c70 N_c70 c_c70 s_c70 F_c70 A_c70   H O hD_c70 hN_c70 hS_c70 hA_c70 pmc70_3 mc70_3 emc70_3 yc70_1_1 eyc70_1_1  jc70_0
      have cF_c70 : SF oz_D6clsl_0 F F_c70 := SF_trans (cF8) hS_c70 (any_sub (by decide +kernel))
      have mF_c70 := SFm_of cF_c70 oz_D6cls_5
      have cA_c70 : SA oz_D6clsl_3 A A_c70 := SA_trans (cA8) hA_c70 (any_subA (by decide +kernel))
      have mA_c70 := SAm_of cA_c70 oz_D6cls_15
      have cD_c70 : SD oz_D6clsl_3 D D_c70 := SD_trans (cD8) hD_c70 (any_subA (by decide +kernel))
      have mD_c70 := SDm_of cD_c70 oz_D6cls_15
      have cN_c70 : SD oz_D6clsl_3 N N_c70 := SD_trans (cN8) hN_c70 (any_subA (by decide +kernel))
      have mN_c70 := SDm_of cN_c70 oz_D6cls_15
      have r11 : (0 : Int) ≤ mc70_3 ∧ mc70_3 ≤ 1000000 := nleE (H.nle 3 (ltn len_V220_Row_Row_oz_D6cls rfl)) (show (N_c70 3 : Int) = mc70_3 from emc70_3)
      have r12 : (-2147483648 : Int) ≤ yc70_1_1 ∧ yc70_1_1 ≤ 2147483647 := rngE (show (-2147483648 : Int) ≤ F_c70 1 1 ∧ F_c70 1 1 ≤ 2147483647 from H.krg 1 1 (ltn len_V220_Row_Row_oz_D6cls rfl)) (show F_c70 1 1 = yc70_1_1 from (eyc70_1_1))
      exact w_ret rfl (k _ _ _ _ _ _ _ H O (cD_c70) (cN_c70) (cF_c70) (cA_c70) (pmc70_3) (mc70_3) (emc70_3) (yc70_1_1) ((eyc70_1_1)) (show 0 ≤ (yc70_1_1) ∧ (yc70_1_1) ≤ (mc70_3) ∧ (mc70_3) ≤ 65536 from jc70_0))
    refine Ew_of (pcₚ := 42) (fun _ => x_aload_n rfl lc26_0) ?_
    refine Ew_stk (congrArg (fun qz : Nat => ([.ref qz] : List Value)) (show D8 0 = D 0 from mD8 0 rfl).symm) ?_
    have r13 : (-2147483648 : Int) ≤ F 0 8 ∧ F 0 8 ≤ 2147483647 := rngE (show (-2147483648 : Int) ≤ F8 0 8 ∧ F8 0 8 ≤ 2147483647 from H.krg 0 8 (ltn len_V220_Row_Row_oz_D6cls rfl)) (show F8 0 8 = F 0 8 from (mF8 0 8 rfl))
    refine v_g H (o := 0) (v := I (F 0 8)) rfl rfl rfl rfl rfl (congrArg (fun z : Int => I z) ((mF8 0 8 rfl) : F8 0 8 = F 0 8)) ?_
    refine Ew_of (pcₚ := 47) (fun _ => x_bipush (z := 16) rfl (by decide)) ?_
    refine w_iand rfl (show inr (F 0 8) from q_22 r13) (show inr (16) from q_86) (fun z14 gz14 gaz14 gbz14 => ?_)
    refine w_ifeq (t := 70) rfl rfl (show inr (z14) from gz14) (fun b15 => ?_) (fun b15 => ?_)
    · exact hc70  _ _ _ _ _ _ _ _   H O (SD_refl) (SD_refl) (SF_refl) (SA_refl) (pf8_1_0) (m8_2) ((congrArg (fun q : Nat => (q : Int)) (eN8 3)).trans em8_2) (y8_0_1) (((eF8 1 1).trans ey8_0_1))  (show 0 ≤ (y8_0_1) ∧ (y8_0_1) ≤ (m8_2) ∧ (m8_2) ≤ 65536 from pz8_0)
    · refine Ew_of (pcₚ := 52) (fun _ => x_aload_n rfl lc26_1) ?_
      refine Ew_of (pcₚ := 53) (fun _ => x_aload_n rfl lc26_2) ?_
      refine Ew_stk (show ([.ref (D 2), .ref (D 1)] : List Value) = [.ref (D8 2), .ref (D8 1)] by rw [show D8 1 = D 1 from mD8 1 rfl, show D8 2 = D 2 from mD8 2 rfl]) ?_
      refine v_g H (o := 2) (v := .ref (D8 4)) rfl rfl rfl rfl rfl (vrf ((mF8 2 0 rfl).trans ((pf4).trans (congrArg (fun q : Nat => (q : Int)) (mD8 4 rfl).symm)))) ?_
      refine Ew_of (pcₚ := 57) (fun _ => x_iload_n rfl lc26_3) ?_
      refine Ew_of (pcₚ := 58) (fun _ => x_aload_n rfl lc26_2) ?_
      refine Ew_stk (congrArg (fun qz : Nat => ([.ref qz, I (a3), .ref (D8 4), .ref (D8 1)] : List Value)) (show D8 2 = D 2 from mD8 2 rfl).symm) ?_
      refine v_g H (o := 2) (v := I (u2_1)) rfl rfl rfl rfl rfl (congrArg (fun z : Int => I z) (((mF8 2 1 rfl).trans (eu2_1)) : F8 2 1 = u2_1)) ?_
      refine Ew_of (pcₚ := 62) (fun _ => x_iconst rfl) ?_
      refine w_stat25 rfl rfl (by rfl) (C49_Br (D := puc 4 D8) (N := puc 4 N8) (HW_subc H oz_D6cls_14 oz_D6cls_18) (n4) ((congrArg (fun q : Nat => (q : Int)) (mN8 4 rfl)).trans (en4)) (show inr (a3) from h0) (show inr (u2_1) from q_884 h4) (show inr (0) from q_20) (show 0 ≤ (a3) ∧ (a3) ≤ (u2_1) ∧ (u2_1) ≤ (n4) from q_2999 h4 h5) (fun z16 σ16 F16ₚ A16ₚ Hₚ Oₚ hS16 hA16 pz16_0 => ⟨rfl, ?_⟩))
      refine v_backc (c := ((c + c5) + c8)) (s := ((s + s5) + s8)) H oz_D6cls_14 oz_D6cls_18 Hₚ Oₚ (fun F16 A16 H Oₚ eF16 eA16 => ?_)
      have O := OUT_trans O Oₚ
      -- PackHouse.narrowSum
      have cF16 : SF oz_D6clsl_0 F F16 := SF_trans (cF8) (SF_gluc (ι := oz_D6clsl_6) oz_D6cls_18 hS16 eF16 (by decide +kernel)) (any_sub (lₚ := []) (by decide +kernel))
      have mF16 := SFm_of cF16 oz_D6cls_5
      have cA16 : SA oz_D6clsl_3 A A16 := SA_trans (cA8) (SA_gluc (ι := oz_D6clsl_6) oz_D6cls_18 hA16 eA16 (by decide +kernel)) (any_subA (lₚ := []) (by decide +kernel))
      have mA16 := SAm_of cA16 oz_D6cls_15
      refine w_i2l rfl (show inr (z16) from pz16_0) ?_
      refine Ew_of (pcₚ := 67) (fun _ => x_iconst rfl) ?_
      refine v_inv H (o := 1) rfl rfl rfl rfl rfl rfl (by rfl) (C160 (D := puc 1537 D8) (N := puc 1537 N8) (HW_subc H oz_D6cls_10 oz_D6cls_16) ((((show F16 1 0 = F8 1 0 from (eF16 1 0)))).trans (pf8_1_0)) (m8_2) ((congrArg (fun q : Nat => (q : Int)) (eN8 3)).trans em8_2) (y8_0_1) ((((show F16 1 1 = F8 1 1 from (eF16 1 1))).trans ((eF8 1 1).trans ey8_0_1))) (show inrJ (z16) from q_428 pz16_0) (show inr (4) from q_2) (show 0 ≤ (y8_0_1) ∧ (y8_0_1) ≤ (m8_2) ∧ (m8_2) ≤ 65536 from pz8_0) (fun σ17 D17ₚ N17ₚ F17ₚ A17ₚ c17 s17 Hₚ Oₚ hD17 hN17 hS17 hA17 pm17_1 m17_1 em17_1 y17_0_1 ey17_0_1 pz17_0 pz17_1 => ⟨rfl, ?_⟩))
      refine v_backMc (c := ((c + c5) + c8)) (s := ((s + s5) + s8)) H oz_D6cls_10 oz_D6cls_16 Hₚ Oₚ hD17 oz_D6cls_11 (fun D17 N17 F17 A17 H Oₚ eD17 eN17 eF17 eA17 => ?_)
      have O := OUT_trans O Oₚ
      -- Row.addNumber
      have cF17 : SF oz_D6clsl_0 F F17 := SF_trans (cF16) (SF_gluc (ι := oz_D6clsl_4) oz_D6cls_16 hS17 eF17 (by decide +kernel)) (any_sub (lₚ := [(1, 0), (1, 1), (1, 2)]) (by decide +kernel))
      have mF17 := SFm_of cF17 oz_D6cls_5
      have cA17 : SA oz_D6clsl_3 A A17 := SA_trans (cA16) (SA_gluc (ι := oz_D6clsl_4) oz_D6cls_16 hA17 eA17 (by decide +kernel)) (any_subA (lₚ := [3]) (by decide +kernel))
      have mA17 := SAm_of cA17 oz_D6cls_15
      have cD17 : SD oz_D6clsl_3 D D17 := SD_trans (cD8) (SD_gluc (ι := oz_D6clsl_4) oz_D6cls_16 hD17 eD17 (by decide +kernel)) (any_subA (lₚ := [3]) (by decide +kernel))
      have mD17 := SDm_of cD17 oz_D6cls_15
      have cN17 : SD oz_D6clsl_3 N N17 := SD_trans (cN8) (SD_gluc (ι := oz_D6clsl_4) oz_D6cls_16 hN17 eN17 (by decide +kernel)) (any_subA (lₚ := [3]) (by decide +kernel))
      have mN17 := SDm_of cN17 oz_D6cls_15
      have pf17_1_0 : F17 1 0 = (D17 3 : Int) := (eF17 1 0).trans (pm17_1.trans (congrArg (fun q : Nat => (q : Int)) (eD17 3).symm))
      have r18 : (0 : Int) ≤ m17_1 ∧ m17_1 ≤ 1000000 := nleE (H.nle 3 (ltn len_V220_Row_Row_oz_D6cls rfl)) (show (N17 3 : Int) = m17_1 from (congrArg (fun q : Nat => (q : Int)) (eN17 3)).trans em17_1)
      have r19 : (-2147483648 : Int) ≤ y17_0_1 ∧ y17_0_1 ≤ 2147483647 := rngE (show (-2147483648 : Int) ≤ F17 1 1 ∧ F17 1 1 ≤ 2147483647 from H.krg 1 1 (ltn len_V220_Row_Row_oz_D6cls rfl)) (show F17 1 1 = y17_0_1 from ((eF17 1 1).trans ey17_0_1))
      exact hc70  _ _ _ _ _ _ _ _   H O (SD_trans (SD_refl) (SD_gluc (ι := oz_D6clsl_4) oz_D6cls_16 hD17 eD17 (by decide +kernel)) (any_subA (lₚ := [3]) (by decide +kernel))) (SD_trans (SD_refl) (SD_gluc (ι := oz_D6clsl_4) oz_D6cls_16 hN17 eN17 (by decide +kernel)) (any_subA (lₚ := [3]) (by decide +kernel))) (SF_trans (SF_trans (SF_refl) (SF_gluc (ι := oz_D6clsl_6) oz_D6cls_18 hS16 eF16 (by decide +kernel)) (any_sub (lₚ := []) (by decide +kernel))) (SF_gluc (ι := oz_D6clsl_4) oz_D6cls_16 hS17 eF17 (by decide +kernel)) (any_sub (lₚ := [(1, 0), (1, 1), (1, 2)]) (by decide +kernel))) (SA_trans (SA_trans (SA_refl) (SA_gluc (ι := oz_D6clsl_6) oz_D6cls_18 hA16 eA16 (by decide +kernel)) (any_subA (lₚ := []) (by decide +kernel))) (SA_gluc (ι := oz_D6clsl_4) oz_D6cls_16 hA17 eA17 (by decide +kernel)) (any_subA (lₚ := [3]) (by decide +kernel))) (pf17_1_0) (m17_1) ((congrArg (fun q : Nat => (q : Int)) (eN17 3)).trans em17_1) (y17_0_1) (((eF17 1 1).trans ey17_0_1))  (show 0 ≤ (y17_0_1) ∧ (y17_0_1) ≤ (m17_1) ∧ (m17_1) ≤ 65536 from pz17_0)
  refine Ew_of (pcₚ := 11) (fun _ => x_iload rfl (rk_o (rfl) rfl rfl)) ?_
  refine w_ifeq (t := 23) rfl rfl (show inr (a4) from h1) (fun b20 => ?_) (fun b20 => ?_)
  · refine Ew_of (pcₚ := 25) (fun _ => x_iload rfl rk_s) ?_
    refine w_i2l rfl (show inr ((u2_1 - a3)) from q_2616 h4 h5) ?_
    exact hc26 ((u2_1 - a3)) _ _ _ _  (rk_o (rfl) rfl rfl) (rk_o (rfl) rfl rfl) (rk_o (rfl) rfl rfl) (rk_o (rfl) rfl rfl) (rk_s) H O (SF_refl) (SA_refl)     (show inrJ ((u2_1 - a3)) from q_2995 h4 h5)
  · refine Ew_of (pcₚ := 16) (fun _ => x_iload rfl rk_s) ?_
    refine Ew_of (pcₚ := 18) (fun _ => x_ldc (z := -2147483648) rfl (by decide)) ?_
    refine w_ior rfl (fun z21 gz21 => ?_)
    refine w_i2l rfl (show inr (z21) from gz21) ?_
    refine Ew_of (pcₚ := 26) (fun _ => x_goto rfl rfl) ?_
    exact hc26 (z21) _ _ _ _  (rk_o (rfl) rfl rfl) (rk_o (rfl) rfl rfl) (rk_o (rfl) rfl rfl) (rk_o (rfl) rfl rfl) (rk_s) H O (SF_refl) (SA_refl)     (show inrJ (z21) from q_428 gz21)
abbrev V211 : vV := [(0, 10, [(4, 0), (4, 0), (4, 0), (4, 0), (0, 0), (4, 0), (0, 0), (2, 0), (0, 0)]), (1, 0, []), (0, 7, [(4, 0), (0, 0), (1, 0), (0, 0), (0, 0)]), (1, 0, [])]
theorem len_V211_oz_D6cls : (V211).length = 4 := by decide +kernel
theorem oz_D6cls_20 : vsub V211 V203 [0] = true := by decide +kernel
theorem oz_D6cls_21 : vsub V211 V53_Br [3] = true := by decide +kernel
theorem oz_D6cls_22 : vsub V211 V54 [] = true := by decide +kernel
theorem oz_D6cls_23 : vsub V211 V41_Br [1] = true := by decide +kernel
theorem oz_D6cls_24 : vsub V211 V161_Br [2, 1, 3] = true := by decide +kernel
theorem oz_D6cls_25 : vmov V211 [2, 1, 3] [2] = true := by decide +kernel
theorem oz_D6cls_26 : vsub V211 V206 [0, 1, 2, 3] = true := by decide +kernel
theorem oz_D6cls_27 : vmov V211 [0, 1, 2, 3] [3] = true := by decide +kernel
def oz_D6clsl_7 : List (Nat × Nat) := [(0, 7), (0, 8), (2, 0), (2, 1), (2, 2)]
theorem oz_D6cls_28 : (oz_D6clsl_7).all (fun p => !tbz 129127208515966861696 (Nat.add (Nat.mul 32 p.1) p.2)) = true := by decide +kernel
def oz_D6clsl_8 : List Nat := [0]
theorem oz_D6cls_29 : okc oz_D6clsl_8 0 = true := by decide +kernel
theorem oz_D6cls_30 : okc oz_D6clsl_3 3 = true := by decide +kernel
def oz_D6clsl_9 : List Nat := []
theorem oz_D6cls_31 : okc oz_D6clsl_9 0 = true := by decide +kernel
def oz_D6clsl_10 : List Nat := [1]
theorem oz_D6cls_32 : okc oz_D6clsl_10 1 = true := by decide +kernel
def oz_D6clsl_11 : List Nat := [2, 1, 3]
theorem oz_D6cls_33 : okc oz_D6clsl_11 786946 = true := by decide +kernel
def oz_D6clsl_12 : List Nat := [0, 1, 2, 3]
theorem oz_D6cls_34 : okc oz_D6clsl_12 403177984 = true := by decide +kernel
/-- Tags.unpackChunk: this, this.in, this.result, this.result.bytes -/
theorem C211 {σE : rS} {D N : Nat → Nat} {F : hF} {A : hA} {d c s : Nat} {Q : wQ} (H : HW V211 σE D N F A) (HT : STC σE) {a1 a2 a3 : Int} (pf1 : F 0 3 = (D 1 : Int)) (pf2 : F 0 5 = (D 2 : Int)) (pf3 : F 2 0 = (D 3 : Int)) (n1 : Int) (en1 : (N 1 : Int) = n1) (n3 : Int) (en3 : (N 3 : Int) = n3) (u0_6 : Int) (eu0_6 : F 0 6 = u0_6) (u2_1 : Int) (eu2_1 : F 2 1 = u2_1) (h0 : inr (a1)) (h1 : inr (a2)) (h2 : inr (a3)) (h3 : 0 ≤ (a1) ∧ 0 ≤ (a3) ∧ (a1) + 4 + (a3) ≤ (n1) ∧ (n1) ≤ 65536) (h4 : 0 ≤ (u2_1) ∧ (u2_1) ≤ (n3) ∧ (n3) ≤ 65536) (h5 : 0 ≤ (u0_6) ∧ (u0_6) ≤ 65536 ∧ (u2_1) ≤ (u0_6)) (k : ∀ (z : Int) (σ : rS) (Dₚ Nₚ : Nat → Nat) (Fₚ : hF) (Aₚ : hA) (cₚ sₚ : Nat), HW V211 σ Dₚ Nₚ Fₚ Aₚ → OUT (V211).length D N σE c s Dₚ Nₚ σ cₚ sₚ → SD [3] D Dₚ → SD [3] N Nₚ → SF [(0, 7), (0, 8), (2, 0), (2, 1), (2, 2)] F Fₚ → SA [3] A Aₚ → Fₚ 2 0 = (Dₚ 3 : Int) → ∀ m3 : Int, (Nₚ 3 : Int) = m3 → ∀ y2_1 : Int, Fₚ 2 1 = y2_1 → (inr (z)) → (0 ≤ (z) ∧ (z) ≤ 12) → (0 ≤ (y2_1) ∧ (y2_1) ≤ (m3) ∧ (m3) ≤ 65536) → ((u2_1) ≤ (y2_1) ∧ (y2_1) ≤ (u0_6)) → Q (some (I z)) σ cₚ sₚ) : Ew 211 (d + 4) 0 (rargs 0 [.ref (D 0), I a1, I a2, I a3]) [] σE c s Q := by
  have O := OUT_refl (n := (V211).length) (D := D) (N := N) (σ := σE) (c := c) (s := s)
  have HE := H
  have r1 : (-2147483648 : Int) ≤ u0_6 ∧ u0_6 ≤ 2147483647 := rngE (show (-2147483648 : Int) ≤ F 0 6 ∧ F 0 6 ≤ 2147483647 from H.krg 0 6 (ltn len_V211_oz_D6cls rfl)) (show F 0 6 = u0_6 from (eu0_6))
  have r2 : (-2147483648 : Int) ≤ u2_1 ∧ u2_1 ≤ 2147483647 := rngE (show (-2147483648 : Int) ≤ F 2 1 ∧ F 2 1 ≤ 2147483647 from H.krg 2 1 (ltn len_V211_oz_D6cls rfl)) (show F 2 1 = u2_1 from (eu2_1))
  have r3 : (0 : Int) ≤ n1 ∧ n1 ≤ 1000000 := nleE (H.nle 1 (ltn len_V211_oz_D6cls rfl)) (show (N 1 : Int) = n1 from en1)
  have r4 : (0 : Int) ≤ n3 ∧ n3 ≤ 1000000 := nleE (H.nle 3 (ltn len_V211_oz_D6cls rfl)) (show (N 3 : Int) = n3 from en3)
  refine Ew_of (pcₚ := 1) (fun _ => x_iload_n rfl rfl) ?_
  refine Ew_of (pcₚ := 2) (fun _ => x_iconst rfl) ?_
  refine w_icmplt (t := 16) rfl rfl (show inr (a3) from h2) (show inr (4) from q_2) (fun b5 => ?_) (fun b5 => ?_)
  · refine Ew_of (pcₚ := 17) (fun _ => x_aload_n rfl rfl) ?_
    refine Ew_of (pcₚ := 19) (fun _ => x_bipush (z := 10) rfl (by decide)) ?_
    refine Ew_of (pcₚ := 20) (fun _ => x_iload_n rfl rfl) ?_
    have r6 : (-2147483648 : Int) ≤ F 0 8 ∧ F 0 8 ≤ 2147483647 := H.krg 0 8 (ltn len_V211_oz_D6cls rfl)
    refine v_inv H (o := 0) rfl rfl rfl rfl rfl rfl (by rfl) (C203 (D := puc 0 D) (N := puc 0 N) (HW_subc H oz_D6cls_20 oz_D6cls_29) (F 0 8) (rfl) (show inr (10) from q_532) (show inr (a1) from h0) (fun z7 σ7 F7ₚ A7ₚ Hₚ Oₚ hS7 hA7 y7_0_8 ey7_0_8 pz7_0 pz7_1 pz7_2 => ⟨rfl, ?_⟩))
    refine v_backc (c := c) (s := s) H oz_D6cls_20 oz_D6cls_29 Hₚ Oₚ (fun F7 A7 H Oₚ eF7 eA7 => ?_)
    have O := OUT_trans O Oₚ
    -- Tags.fail
    have cF7 : SF oz_D6clsl_7 F F7 := SF_trans (SF_refl) (SF_gluc (ι := oz_D6clsl_8) oz_D6cls_29 hS7 eF7 (by decide +kernel)) (any_sub (lₚ := [(0, 8)]) (by decide +kernel))
    have mF7 := SFm_of cF7 oz_D6cls_28
    have cA7 : SA oz_D6clsl_3 A A7 := SA_trans (SA_refl) (SA_gluc (ι := oz_D6clsl_8) oz_D6cls_29 hA7 eA7 (by decide +kernel)) (any_subA (lₚ := []) (by decide +kernel))
    have mA7 := SAm_of cA7 oz_D6cls_15
    have r8 : (-2147483648 : Int) ≤ y7_0_8 ∧ y7_0_8 ≤ 2147483647 := rngE (show (-2147483648 : Int) ≤ F7 0 8 ∧ F7 0 8 ≤ 2147483647 from H.krg 0 8 (ltn len_V211_oz_D6cls rfl)) (show F7 0 8 = y7_0_8 from ((eF7 0 8).trans ey7_0_8))
    exact w_ireturn rfl (k (z7) _ _ _ _ _ _ _ H O (SD_refl) (SD_refl) (cF7) (cA7) ((((show F7 2 0 = F 2 0 from (eF7 2 0)))).trans (pf3)) (n3) (en3) (u2_1) ((((show F7 2 1 = F 2 1 from (eF7 2 1))).trans (eu2_1))) (show inr (z7) from pz7_0) (show 0 ≤ (z7) ∧ (z7) ≤ 12 from q_3032 pz7_1) (show 0 ≤ (u2_1) ∧ (u2_1) ≤ (n3) ∧ (n3) ≤ 65536 from h4) (show (u2_1) ≤ (u2_1) ∧ (u2_1) ≤ (u0_6) from q_518 h5))
  · refine Ew_of (pcₚ := 6) (fun _ => x_iload_n rfl rfl) ?_
    refine Ew_of (pcₚ := 7) (fun _ => x_iconst rfl) ?_
    have hc24 : ∀ (ls : rO) (σ : rS) (F_c24 : hF) (A_c24 : hA) , rlook ls 0 = some (.ref (D 0)) → rlook ls 1 = some (I (a1)) → rlook ls 2 = some (I (a2)) → rlook ls 3 = some (I (a3)) → HW V211 σ D N F_c24 A_c24 → OUT (V211).length D N σE c s D N σ c s → SF [] F F_c24 → SA [] A A_c24 → (((a2) ≠ (1)) ∨ ((a2) = (1) ∧ (a3) ≤ (65540))) → Ew 211 (d + 4) 24 ls [] σ c s Q := by
     as_aux_lemma =>
      intro  ls σ F_c24 A_c24  lc24_0 lc24_1 lc24_2 lc24_3 H O hS_c24 hA_c24     jc24_0
      have cF_c24 : SF oz_D6clsl_7 F F_c24 := SF_trans (SF_refl) hS_c24 (any_sub (by decide +kernel))
      have mF_c24 := SFm_of cF_c24 oz_D6cls_28
      have cA_c24 : SA oz_D6clsl_3 A A_c24 := SA_trans (SA_refl) hA_c24 (any_subA (by decide +kernel))
      have mA_c24 := SAm_of cA_c24 oz_D6cls_15
      refine Ew_of (pcₚ := 25) (fun _ => x_aload_n rfl lc24_0) ?_
      refine v_g H (o := 0) (v := .ref (D 2)) rfl rfl rfl rfl rfl (vrf ((mF_c24 0 5 rfl).trans (pf2))) ?_
      refine v_g H (o := 2) (v := I (u2_1)) rfl rfl rfl rfl rfl (congrArg (fun z : Int => I z) (((hS_c24 2 1 rfl).trans (eu2_1)) : F_c24 2 1 = u2_1)) ?_
      refine Ew_of (pcₚ := 33) (fun _ => x_istore rfl) ?_
      refine Ew_of (pcₚ := 34) (fun _ => x_aload_n rfl (rk_o (lc24_0) rfl rfl)) ?_
      refine v_g H (o := 0) (v := I (u0_6)) rfl rfl rfl rfl rfl (congrArg (fun z : Int => I z) (((mF_c24 0 6 rfl).trans (eu0_6)) : F_c24 0 6 = u0_6)) ?_
      refine Ew_of (pcₚ := 39) (fun _ => x_iload rfl rk_s) ?_
      refine w_isub rfl ?_
      refine Ew_of (pcₚ := 42) (fun _ => x_istore rfl) ?_
      refine Ew_of (pcₚ := 43) (fun _ => x_iload_n rfl (rk_o (rk_o (lc24_1) rfl rfl) rfl rfl)) ?_
      refine Ew_of (pcₚ := 44) (fun _ => x_iconst rfl) ?_
      refine w_iadd rfl ?_
      refine Ew_of (pcₚ := 46) (fun _ => x_iload_n rfl (rk_o (rk_o (lc24_3) rfl rfl) rfl rfl)) ?_
      refine w_iadd rfl ?_
      refine Ew_of (pcₚ := 49) (fun _ => x_istore rfl) ?_
      have hc133 : ∀ (ls : rO) (σ : rS) (D_c133 N_c133 : Nat → Nat) (c_c133 s_c133 : Nat) (F_c133 : hF) (A_c133 : hA) , rlook ls 0 = some (.ref (D_c133 0)) → rlook ls 1 = some (I (a1)) → rlook ls 4 = some (I (u2_1)) → HW V211 σ D_c133 N_c133 F_c133 A_c133 → OUT (V211).length D N σE c s D_c133 N_c133 σ c_c133 s_c133 → SD [3] D D_c133 → SD [3] N N_c133 → SF [(0, 7), (0, 8), (2, 0), (2, 1), (2, 2)] F_c24 F_c133 → SA [3] A_c24 A_c133 → F_c133 2 0 = (D_c133 3 : Int) → ∀ mc133_3 : Int, (N_c133 3 : Int) = mc133_3 → ∀ yc133_2_1 : Int, F_c133 2 1 = yc133_2_1 → (0 ≤ (yc133_2_1) ∧ (yc133_2_1) ≤ (mc133_3) ∧ (mc133_3) ≤ 65536) → ((u2_1) ≤ (yc133_2_1) ∧ (yc133_2_1) ≤ (u0_6)) → Ew 211 (d + 4) 133 ls [] σ c_c133 s_c133 Q := by
       as_aux_lemma =>
        intro  ls σ D_c133 N_c133 c_c133 s_c133 F_c133 A_c133  lc133_0 lc133_1 lc133_4 H O hD_c133 hN_c133 hS_c133 hA_c133 pmc133_3 mc133_3 emc133_3 yc133_2_1 eyc133_2_1  jc133_0 jc133_1
        have cF_c133 : SF oz_D6clsl_7 F F_c133 := SF_trans (cF_c24) hS_c133 (any_sub (by decide +kernel))
        have mF_c133 := SFm_of cF_c133 oz_D6cls_28
        have cA_c133 : SA oz_D6clsl_3 A A_c133 := SA_trans (cA_c24) hA_c133 (any_subA (by decide +kernel))
        have mA_c133 := SAm_of cA_c133 oz_D6cls_15
        have cD_c133 : SD oz_D6clsl_3 D D_c133 := SD_trans (SD_refl) hD_c133 (any_subA (by decide +kernel))
        have mD_c133 := SDm_of cD_c133 oz_D6cls_15
        have cN_c133 : SD oz_D6clsl_3 N N_c133 := SD_trans (SD_refl) hN_c133 (any_subA (by decide +kernel))
        have mN_c133 := SDm_of cN_c133 oz_D6cls_15
        have r9 : (0 : Int) ≤ mc133_3 ∧ mc133_3 ≤ 1000000 := nleE (H.nle 3 (ltn len_V211_oz_D6cls rfl)) (show (N_c133 3 : Int) = mc133_3 from emc133_3)
        have r10 : (-2147483648 : Int) ≤ yc133_2_1 ∧ yc133_2_1 ≤ 2147483647 := rngE (show (-2147483648 : Int) ≤ F_c133 2 1 ∧ F_c133 2 1 ≤ 2147483647 from H.krg 2 1 (ltn len_V211_oz_D6cls rfl)) (show F_c133 2 1 = yc133_2_1 from (eyc133_2_1))
        refine Ew_of (pcₚ := 134) (fun _ => x_aload_n rfl lc133_0) ?_
        refine v_g H (o := 0) (v := .ref (D_c133 2)) rfl rfl rfl rfl rfl (vrf ((mF_c133 0 5 rfl).trans ((pf2).trans (congrArg (fun q : Nat => (q : Int)) (mD_c133 2 rfl).symm)))) ?_
        refine v_g H (o := 2) (v := .ref (D_c133 3)) rfl rfl rfl rfl rfl (vrf (pmc133_3)) ?_
        refine Ew_of (pcₚ := 142) (fun _ => x_iload rfl lc133_4) ?_
        refine Ew_of (pcₚ := 143) (fun _ => x_aload_n rfl lc133_0) ?_
        refine v_g H (o := 0) (v := .ref (D_c133 2)) rfl rfl rfl rfl rfl (vrf ((mF_c133 0 5 rfl).trans ((pf2).trans (congrArg (fun q : Nat => (q : Int)) (mD_c133 2 rfl).symm)))) ?_
        refine v_g H (o := 2) (v := I (yc133_2_1)) rfl rfl rfl rfl rfl (congrArg (fun z : Int => I z) ((eyc133_2_1) : F_c133 2 1 = yc133_2_1)) ?_
        refine w_stat25 rfl rfl (by rfl) (C53_Br (D := puc 3 D_c133) (N := puc 3 N_c133) (HW_subc H oz_D6cls_21 oz_D6cls_30) (STC_out HT HE O) (mc133_3) (emc133_3) (show inr (u2_1) from q_3034 h4 h5) (show inr (yc133_2_1) from q_884 jc133_0) (show 0 ≤ (u2_1) ∧ (u2_1) ≤ (yc133_2_1) ∧ (yc133_2_1) ≤ (mc133_3) from q_3033 h4 jc133_0 jc133_1) (fun z11 σ11 F11ₚ A11ₚ Hₚ Oₚ hS11 hA11 pz11_0 => ⟨rfl, ?_⟩))
        refine v_backc (c := c_c133) (s := s_c133) H oz_D6cls_21 oz_D6cls_30 Hₚ Oₚ (fun F11 A11 H Oₚ eF11 eA11 => ?_)
        have O := OUT_trans O Oₚ
        -- PackHouse.polynomialSum
        have cF11 : SF oz_D6clsl_7 F F11 := SF_trans (cF_c133) (SF_gluc (ι := oz_D6clsl_3) oz_D6cls_30 hS11 eF11 (by decide +kernel)) (any_sub (lₚ := []) (by decide +kernel))
        have mF11 := SFm_of cF11 oz_D6cls_28
        have cA11 : SA oz_D6clsl_3 A A11 := SA_trans (cA_c133) (SA_gluc (ι := oz_D6clsl_3) oz_D6cls_30 hA11 eA11 (by decide +kernel)) (any_subA (lₚ := []) (by decide +kernel))
        have mA11 := SAm_of cA11 oz_D6cls_15
        refine w_stat25 rfl rfl (by rfl) (C54 (D := puc 0 D_c133) (N := puc 0 N_c133) (HW_subc H oz_D6cls_22 oz_D6cls_31) (show inr (z11) from pz11_0) (fun z12 σ12 F12ₚ A12ₚ Hₚ Oₚ hS12 hA12 pz12_0 => ⟨rfl, ?_⟩))
        refine v_backc (c := c_c133) (s := s_c133) H oz_D6cls_22 oz_D6cls_31 Hₚ Oₚ (fun F12 A12 H Oₚ eF12 eA12 => ?_)
        have O := OUT_trans O Oₚ
        -- PackHouse.maskedSum
        have cF12 : SF oz_D6clsl_7 F F12 := SF_trans (cF11) (SF_gluc (ι := oz_D6clsl_9) oz_D6cls_31 hS12 eF12 (by decide +kernel)) (any_sub (lₚ := []) (by decide +kernel))
        have mF12 := SFm_of cF12 oz_D6cls_28
        have cA12 : SA oz_D6clsl_3 A A12 := SA_trans (cA11) (SA_gluc (ι := oz_D6clsl_9) oz_D6cls_31 hA12 eA12 (by decide +kernel)) (any_subA (lₚ := []) (by decide +kernel))
        have mA12 := SAm_of cA12 oz_D6cls_15
        refine Ew_of (pcₚ := 157) (fun _ => x_istore rfl) ?_
        refine Ew_of (pcₚ := 159) (fun _ => x_iload rfl rk_s) ?_
        refine Ew_of (pcₚ := 160) (fun _ => x_aload_n rfl (rk_o (lc133_0) rfl rfl)) ?_
        refine v_g H (o := 0) (v := .ref (D_c133 1)) rfl rfl rfl rfl rfl (vrf ((mF12 0 3 rfl).trans ((pf1).trans (congrArg (fun q : Nat => (q : Int)) (mD_c133 1 rfl).symm)))) ?_
        refine Ew_of (pcₚ := 164) (fun _ => x_iload_n rfl (rk_o (lc133_1) rfl rfl)) ?_
        refine Ew_of (pcₚ := 165) (fun _ => x_iconst rfl) ?_
        refine w_iadd rfl ?_
        refine w_stat25 rfl rfl (by rfl) (C41_Br (D := puc 1 D_c133) (N := puc 1 N_c133) (HW_subc H oz_D6cls_23 oz_D6cls_32) (n1) ((congrArg (fun q : Nat => (q : Int)) (mN_c133 1 rfl)).trans (en1)) (show inr ((a1 + 4)) from q_3036 h3) (show 0 ≤ ((a1 + 4)) ∧ ((a1 + 4)) + 4 ≤ (n1) from q_3035 b5 h3) (fun z13 σ13 F13ₚ A13ₚ Hₚ Oₚ hS13 hA13 pz13_0 => ⟨rfl, ?_⟩))
        refine v_backc (c := c_c133) (s := s_c133) H oz_D6cls_23 oz_D6cls_32 Hₚ Oₚ (fun F13 A13 H Oₚ eF13 eA13 => ?_)
        have O := OUT_trans O Oₚ
        -- PackHouse.word
        have cF13 : SF oz_D6clsl_7 F F13 := SF_trans (cF12) (SF_gluc (ι := oz_D6clsl_10) oz_D6cls_32 hS13 eF13 (by decide +kernel)) (any_sub (lₚ := []) (by decide +kernel))
        have mF13 := SFm_of cF13 oz_D6cls_28
        have cA13 : SA oz_D6clsl_3 A A13 := SA_trans (cA12) (SA_gluc (ι := oz_D6clsl_10) oz_D6cls_32 hA13 eA13 (by decide +kernel)) (any_subA (lₚ := []) (by decide +kernel))
        have mA13 := SAm_of cA13 oz_D6cls_15
        refine w_icmpne (t := 176) rfl rfl (show inr (z12) from pz12_0) (show inr (z13) from pz13_0) (fun b14 => ?_) (fun b14 => ?_)
        · refine Ew_of (pcₚ := 177) (fun _ => x_aload_n rfl (rk_o (lc133_0) rfl rfl)) ?_
          refine Ew_of (pcₚ := 179) (fun _ => x_bipush (z := 11) rfl (by decide)) ?_
          refine Ew_of (pcₚ := 180) (fun _ => x_iload_n rfl (rk_o (lc133_1) rfl rfl)) ?_
          refine Ew_of (pcₚ := 181) (fun _ => x_iconst rfl) ?_
          refine w_iadd rfl ?_
          have r15 : (-2147483648 : Int) ≤ F_c133 0 8 ∧ F_c133 0 8 ≤ 2147483647 := rngE (show (-2147483648 : Int) ≤ F13 0 8 ∧ F13 0 8 ≤ 2147483647 from H.krg 0 8 (ltn len_V211_oz_D6cls rfl)) (show F13 0 8 = F_c133 0 8 from ((((show F13 0 8 = F12 0 8 from (eF13 0 8))).trans ((show F12 0 8 = F11 0 8 from (eF12 0 8)))).trans ((show F11 0 8 = F_c133 0 8 from (eF11 0 8)))))
          refine v_inv H (o := 0) rfl rfl rfl rfl rfl rfl (by rfl) (C203 (D := puc 0 D_c133) (N := puc 0 N_c133) (HW_subc H oz_D6cls_20 oz_D6cls_29) (F_c133 0 8) (((((show F13 0 8 = F12 0 8 from (eF13 0 8))).trans ((show F12 0 8 = F11 0 8 from (eF12 0 8)))).trans ((show F11 0 8 = F_c133 0 8 from (eF11 0 8))))) (show inr (11) from q_67) (show inr ((a1 + 4)) from q_3036 h3) (fun z16 σ16 F16ₚ A16ₚ Hₚ Oₚ hS16 hA16 y16_0_8 ey16_0_8 pz16_0 pz16_1 pz16_2 => ⟨rfl, ?_⟩))
          refine v_backc (c := c_c133) (s := s_c133) H oz_D6cls_20 oz_D6cls_29 Hₚ Oₚ (fun F16 A16 H Oₚ eF16 eA16 => ?_)
          have O := OUT_trans O Oₚ
          -- Tags.fail
          have cF16 : SF oz_D6clsl_7 F F16 := SF_trans (cF13) (SF_gluc (ι := oz_D6clsl_8) oz_D6cls_29 hS16 eF16 (by decide +kernel)) (any_sub (lₚ := [(0, 8)]) (by decide +kernel))
          have mF16 := SFm_of cF16 oz_D6cls_28
          have cA16 : SA oz_D6clsl_3 A A16 := SA_trans (cA13) (SA_gluc (ι := oz_D6clsl_8) oz_D6cls_29 hA16 eA16 (by decide +kernel)) (any_subA (lₚ := []) (by decide +kernel))
          have mA16 := SAm_of cA16 oz_D6cls_15
          have r17 : (-2147483648 : Int) ≤ y16_0_8 ∧ y16_0_8 ≤ 2147483647 := rngE (show (-2147483648 : Int) ≤ F16 0 8 ∧ F16 0 8 ≤ 2147483647 from H.krg 0 8 (ltn len_V211_oz_D6cls rfl)) (show F16 0 8 = y16_0_8 from ((eF16 0 8).trans ey16_0_8))
          exact w_ireturn rfl (k (z16) _ _ _ _ _ _ _ H O (cD_c133) (cN_c133) (cF16) (cA16) (((((((show F16 2 0 = F13 2 0 from (eF16 2 0))).trans ((show F13 2 0 = F12 2 0 from (eF13 2 0)))).trans ((show F12 2 0 = F11 2 0 from (eF12 2 0)))).trans ((show F11 2 0 = F_c133 2 0 from (eF11 2 0))))).trans (pmc133_3)) (mc133_3) (emc133_3) (yc133_2_1) (((((((show F16 2 1 = F13 2 1 from (eF16 2 1))).trans ((show F13 2 1 = F12 2 1 from (eF13 2 1)))).trans ((show F12 2 1 = F11 2 1 from (eF12 2 1)))).trans ((show F11 2 1 = F_c133 2 1 from (eF11 2 1)))).trans (eyc133_2_1))) (show inr (z16) from pz16_0) (show 0 ≤ (z16) ∧ (z16) ≤ 12 from q_3037 pz16_1) (show 0 ≤ (yc133_2_1) ∧ (yc133_2_1) ≤ (mc133_3) ∧ (mc133_3) ≤ 65536 from jc133_0) (show (u2_1) ≤ (yc133_2_1) ∧ (yc133_2_1) ≤ (u0_6) from jc133_1))
        · refine Ew_of (pcₚ := 173) (fun _ => x_iconst rfl) ?_
          refine Ew_of (pcₚ := 185) (fun _ => x_goto rfl rfl) ?_
          exact w_ireturn rfl (k (0) _ _ _ _ _ _ _ H O (cD_c133) (cN_c133) (cF13) (cA13) ((((((show F13 2 0 = F12 2 0 from (eF13 2 0))).trans ((show F12 2 0 = F11 2 0 from (eF12 2 0)))).trans ((show F11 2 0 = F_c133 2 0 from (eF11 2 0))))).trans (pmc133_3)) (mc133_3) (emc133_3) (yc133_2_1) ((((((show F13 2 1 = F12 2 1 from (eF13 2 1))).trans ((show F12 2 1 = F11 2 1 from (eF12 2 1)))).trans ((show F11 2 1 = F_c133 2 1 from (eF11 2 1)))).trans (eyc133_2_1))) (show inr (0) from q_20) (show 0 ≤ (0) ∧ (0) ≤ 12 by first | exact q_3038 | omega) (show 0 ≤ (yc133_2_1) ∧ (yc133_2_1) ≤ (mc133_3) ∧ (mc133_3) ≤ 65536 from jc133_0) (show (u2_1) ≤ (yc133_2_1) ∧ (yc133_2_1) ≤ (u0_6) from jc133_1))
      refine Ew_of (pcₚ := 50) (fun _ => x_iload_n rfl (rk_o (rk_o (rk_o (lc24_2) rfl rfl) rfl rfl) rfl rfl)) ?_
      refine w_ifne (t := 94) rfl rfl (show inr (a2) from h1) (fun b18 => ?_) (fun b18 => ?_)
      · refine Ew_of (pcₚ := 95) (fun _ => x_iload_n rfl (rk_o (rk_o (rk_o (lc24_3) rfl rfl) rfl rfl) rfl rfl)) ?_
        refine Ew_of (pcₚ := 96) (fun _ => x_iconst rfl) ?_
        refine w_isub rfl ?_
        refine Ew_of (pcₚ := 99) (fun _ => x_iload rfl (rk_o (rk_s) rfl rfl)) ?_
        refine w_icmple (t := 115) rfl rfl (show inr ((a3 - 4)) from q_3040 b5 h3) (show inr ((u0_6 - u2_1)) from q_3039 h4 h5) (fun b19 => ?_) (fun b19 => ?_)
        · refine Ew_of (pcₚ := 116) (fun _ => x_aload_n rfl (rk_o (rk_o (rk_o (lc24_0) rfl rfl) rfl rfl) rfl rfl)) ?_
          refine v_g H (o := 0) (v := .ref (D 2)) rfl rfl rfl rfl rfl (vrf ((mF_c24 0 5 rfl).trans (pf2))) ?_
          refine Ew_of (pcₚ := 120) (fun _ => x_aload_n rfl (rk_o (rk_o (rk_o (lc24_0) rfl rfl) rfl rfl) rfl rfl)) ?_
          refine v_g H (o := 0) (v := .ref (D 1)) rfl rfl rfl rfl rfl (vrf ((mF_c24 0 3 rfl).trans (pf1))) ?_
          refine Ew_of (pcₚ := 124) (fun _ => x_iload_n rfl (rk_o (rk_o (rk_o (lc24_1) rfl rfl) rfl rfl) rfl rfl)) ?_
          refine Ew_of (pcₚ := 126) (fun _ => x_bipush (z := 8) rfl (by decide)) ?_
          refine w_iadd rfl ?_
          refine Ew_of (pcₚ := 128) (fun _ => x_iload_n rfl (rk_o (rk_o (rk_o (lc24_3) rfl rfl) rfl rfl) rfl rfl)) ?_
          refine Ew_of (pcₚ := 129) (fun _ => x_iconst rfl) ?_
          refine w_isub rfl ?_
          refine v_inv H (o := 2) rfl rfl rfl rfl rfl rfl (by rfl) (C161_Br (D := puc 786946 D) (N := puc 786946 N) (HW_subc H oz_D6cls_24 oz_D6cls_33) (((hS_c24 2 0 rfl)).trans (pf3)) (n1) (en1) (n3) (en3) (u2_1) (((hS_c24 2 1 rfl).trans (eu2_1))) (A 3) (funext (hA_c24 3 rfl)) (show inr ((a1 + 8)) from q_3042 h3) (show inr ((a3 - 4)) from q_3040 b5 h3) (show 0 ≤ (u2_1) ∧ (u2_1) ≤ (n3) ∧ (n3) ≤ 65536 from h4) (show ((a3 - 4)) < 0 ∨ 0 ≤ ((a1 + 8)) ∧ ((a1 + 8)) + ((a3 - 4)) ≤ (n1) from q_3041 h3) (fun σ20 D20ₚ N20ₚ F20ₚ A20ₚ c20 s20 Hₚ Oₚ hD20 hN20 hS20 hA20 pm20_2 m20_2 em20_2 y20_0_1 ey20_0_1 w20_2 ew20_2 pz20_0 pz20_1 pz20_2 => ⟨rfl, ?_⟩))
          refine v_backMc (c := c) (s := s) H oz_D6cls_24 oz_D6cls_33 Hₚ Oₚ hD20 oz_D6cls_25 (fun D20 N20 F20 A20 H Oₚ eD20 eN20 eF20 eA20 => ?_)
          have O := OUT_trans O Oₚ
          -- Row.addPart
          have cF20 : SF oz_D6clsl_7 F F20 := SF_trans (cF_c24) (SF_gluc (ι := oz_D6clsl_11) oz_D6cls_33 hS20 eF20 (by decide +kernel)) (any_sub (lₚ := [(2, 0), (2, 1), (2, 2)]) (by decide +kernel))
          have mF20 := SFm_of cF20 oz_D6cls_28
          have cA20 : SA oz_D6clsl_3 A A20 := SA_trans (cA_c24) (SA_gluc (ι := oz_D6clsl_11) oz_D6cls_33 hA20 eA20 (by decide +kernel)) (any_subA (lₚ := [3]) (by decide +kernel))
          have mA20 := SAm_of cA20 oz_D6cls_15
          have cD20 : SD oz_D6clsl_3 D D20 := SD_trans (SD_refl) (SD_gluc (ι := oz_D6clsl_11) oz_D6cls_33 hD20 eD20 (by decide +kernel)) (any_subA (lₚ := [3]) (by decide +kernel))
          have mD20 := SDm_of cD20 oz_D6cls_15
          have cN20 : SD oz_D6clsl_3 N N20 := SD_trans (SD_refl) (SD_gluc (ι := oz_D6clsl_11) oz_D6cls_33 hN20 eN20 (by decide +kernel)) (any_subA (lₚ := [3]) (by decide +kernel))
          have mN20 := SDm_of cN20 oz_D6cls_15
          have pf20_2_0 : F20 2 0 = (D20 3 : Int) := (eF20 2 0).trans (pm20_2.trans (congrArg (fun q : Nat => (q : Int)) (eD20 3).symm))
          have r21 : (0 : Int) ≤ m20_2 ∧ m20_2 ≤ 1000000 := nleE (H.nle 3 (ltn len_V211_oz_D6cls rfl)) (show (N20 3 : Int) = m20_2 from (congrArg (fun q : Nat => (q : Int)) (eN20 3)).trans em20_2)
          have r22 : (-2147483648 : Int) ≤ y20_0_1 ∧ y20_0_1 ≤ 2147483647 := rngE (show (-2147483648 : Int) ≤ F20 2 1 ∧ F20 2 1 ≤ 2147483647 from H.krg 2 1 (ltn len_V211_oz_D6cls rfl)) (show F20 2 1 = y20_0_1 from ((eF20 2 1).trans ey20_0_1))
          exact hc133  _ _ _ _ _ _ _ _  ((rk_o (rk_o (rk_o (lc24_0) rfl rfl) rfl rfl) rfl rfl).trans (congrArg (fun q : Nat => some (Value.ref q)) (mD20 0 rfl).symm)) (rk_o (rk_o (rk_o (lc24_1) rfl rfl) rfl rfl) rfl rfl) (rk_o (rk_o (rk_s) rfl rfl) rfl rfl) H O (SD_trans (SD_refl) (SD_gluc (ι := oz_D6clsl_11) oz_D6cls_33 hD20 eD20 (by decide +kernel)) (any_subA (lₚ := [3]) (by decide +kernel))) (SD_trans (SD_refl) (SD_gluc (ι := oz_D6clsl_11) oz_D6cls_33 hN20 eN20 (by decide +kernel)) (any_subA (lₚ := [3]) (by decide +kernel))) (SF_trans (SF_refl) (SF_gluc (ι := oz_D6clsl_11) oz_D6cls_33 hS20 eF20 (by decide +kernel)) (any_sub (lₚ := [(2, 0), (2, 1), (2, 2)]) (by decide +kernel))) (SA_trans (SA_refl) (SA_gluc (ι := oz_D6clsl_11) oz_D6cls_33 hA20 eA20 (by decide +kernel)) (any_subA (lₚ := [3]) (by decide +kernel))) (pf20_2_0) (m20_2) ((congrArg (fun q : Nat => (q : Int)) (eN20 3)).trans em20_2) (y20_0_1) (((eF20 2 1).trans ey20_0_1))  (show 0 ≤ (y20_0_1) ∧ (y20_0_1) ≤ (m20_2) ∧ (m20_2) ≤ 65536 from pz20_0) (show (u2_1) ≤ (y20_0_1) ∧ (y20_0_1) ≤ (u0_6) from q_3043 b19 b5 h5 pz20_1)
        · refine Ew_of (pcₚ := 103) (fun _ => x_aload_n rfl (rk_o (rk_o (rk_o (lc24_0) rfl rfl) rfl rfl) rfl rfl)) ?_
          refine Ew_of (pcₚ := 104) (fun _ => x_iconst rfl) ?_
          refine Ew_of (pcₚ := 105) (fun _ => x_iload_n rfl (rk_o (rk_o (rk_o (lc24_1) rfl rfl) rfl rfl) rfl rfl)) ?_
          refine Ew_of (pcₚ := 107) (fun _ => x_bipush (z := 8) rfl (by decide)) ?_
          refine w_iadd rfl ?_
          refine Ew_of (pcₚ := 110) (fun _ => x_iload rfl (rk_o (rk_s) rfl rfl)) ?_
          refine w_iadd rfl ?_
          have r23 : (-2147483648 : Int) ≤ F 0 8 ∧ F 0 8 ≤ 2147483647 := rngE (show (-2147483648 : Int) ≤ F_c24 0 8 ∧ F_c24 0 8 ≤ 2147483647 from H.krg 0 8 (ltn len_V211_oz_D6cls rfl)) (show F_c24 0 8 = F 0 8 from (hS_c24 0 8 rfl))
          refine v_inv H (o := 0) rfl rfl rfl rfl rfl rfl (by rfl) (C203 (D := puc 0 D) (N := puc 0 N) (HW_subc H oz_D6cls_20 oz_D6cls_29) (F 0 8) ((hS_c24 0 8 rfl)) (show inr (3) from q_66) (show inr (((a1 + 8) + (u0_6 - u2_1))) from q_3044 b19 h3 h5) (fun z24 σ24 F24ₚ A24ₚ Hₚ Oₚ hS24 hA24 y24_0_8 ey24_0_8 pz24_0 pz24_1 pz24_2 => ⟨rfl, ?_⟩))
          refine v_backc (c := c) (s := s) H oz_D6cls_20 oz_D6cls_29 Hₚ Oₚ (fun F24 A24 H Oₚ eF24 eA24 => ?_)
          have O := OUT_trans O Oₚ
          -- Tags.fail
          have cF24 : SF oz_D6clsl_7 F F24 := SF_trans (cF_c24) (SF_gluc (ι := oz_D6clsl_8) oz_D6cls_29 hS24 eF24 (by decide +kernel)) (any_sub (lₚ := [(0, 8)]) (by decide +kernel))
          have mF24 := SFm_of cF24 oz_D6cls_28
          have cA24 : SA oz_D6clsl_3 A A24 := SA_trans (cA_c24) (SA_gluc (ι := oz_D6clsl_8) oz_D6cls_29 hA24 eA24 (by decide +kernel)) (any_subA (lₚ := []) (by decide +kernel))
          have mA24 := SAm_of cA24 oz_D6cls_15
          have r25 : (-2147483648 : Int) ≤ y24_0_8 ∧ y24_0_8 ≤ 2147483647 := rngE (show (-2147483648 : Int) ≤ F24 0 8 ∧ F24 0 8 ≤ 2147483647 from H.krg 0 8 (ltn len_V211_oz_D6cls rfl)) (show F24 0 8 = y24_0_8 from ((eF24 0 8).trans ey24_0_8))
          exact w_ireturn rfl (k (z24) _ _ _ _ _ _ _ H O (SD_refl) (SD_refl) (cF24) (cA24) (((((show F24 2 0 = F_c24 2 0 from (eF24 2 0))).trans (hS_c24 2 0 rfl))).trans (pf3)) (n3) (en3) (u2_1) (((((show F24 2 1 = F_c24 2 1 from (eF24 2 1))).trans (hS_c24 2 1 rfl)).trans (eu2_1))) (show inr (z24) from pz24_0) (show 0 ≤ (z24) ∧ (z24) ≤ 12 from q_3045 pz24_1) (show 0 ≤ (u2_1) ∧ (u2_1) ≤ (n3) ∧ (n3) ≤ 65536 from h4) (show (u2_1) ≤ (u2_1) ∧ (u2_1) ≤ (u0_6) from q_518 h5))
      · refine Ew_of (pcₚ := 54) (fun _ => x_aload_n rfl (rk_o (rk_o (rk_o (lc24_0) rfl rfl) rfl rfl) rfl rfl)) ?_
        refine Ew_of (pcₚ := 55) (fun _ => x_iload_n rfl (rk_o (rk_o (rk_o (lc24_1) rfl rfl) rfl rfl) rfl rfl)) ?_
        refine Ew_of (pcₚ := 57) (fun _ => x_bipush (z := 8) rfl (by decide)) ?_
        refine w_iadd rfl ?_
        refine Ew_of (pcₚ := 60) (fun _ => x_iload rfl rk_s) ?_
        refine Ew_of (pcₚ := 62) (fun _ => x_ldc (z := 65536) rfl (by decide)) ?_
        refine Ew_of (pcₚ := 64) (fun _ => x_iload rfl (rk_o (rk_s) rfl rfl)) ?_
        refine v_min rfl rfl (show inr (65536) from q_35) (show inr ((u0_6 - u2_1)) from q_3039 h4 h5) (fun z26 gz26 => ?_)
        refine v_inv H (o := 0) rfl rfl rfl rfl rfl rfl (by rfl) (C206 (D := puc 403177984 D) (N := puc 403177984 N) (HW_subc H oz_D6cls_26 oz_D6cls_34) ((mF_c24 0 3 rfl).trans (pf1)) ((mF_c24 0 5 rfl).trans (pf2)) (((hS_c24 2 0 rfl)).trans (pf3)) (n1) (en1) (n3) (en3) (u2_1) (((hS_c24 2 1 rfl).trans (eu2_1))) (show inr ((a1 + 8)) from q_3042 h3) (show inr (((a1 + 4) + a3)) from q_3049 b5 h3) (show inr (z26) from q_3048 gz26 h5) (show 0 ≤ ((a1 + 8)) ∧ ((a1 + 8)) ≤ (((a1 + 4) + a3)) ∧ (((a1 + 4) + a3)) ≤ (n1) ∧ (n1) ≤ 65536 from q_3047 b5 h3) (show 0 ≤ (u2_1) ∧ (u2_1) ≤ (n3) ∧ (n3) ≤ 65536 from h4) (show (z26) ≤ 65536 from q_3046 gz26) (fun z27 σ27 D27ₚ N27ₚ F27ₚ A27ₚ c27 s27 Hₚ Oₚ hD27 hN27 hS27 hA27 pm27_3 m27_3 em27_3 y27_2_1 ey27_2_1 pz27_0 pz27_1 pz27_2 pz27_3 pz27_4 => ⟨rfl, ?_⟩))
        refine v_backMc (c := c) (s := s) H oz_D6cls_26 oz_D6cls_34 Hₚ Oₚ hD27 oz_D6cls_27 (fun D27 N27 F27 A27 H Oₚ eD27 eN27 eF27 eA27 => ?_)
        have O := OUT_trans O Oₚ
        -- Tags.unpackBlock
        have cF27 : SF oz_D6clsl_7 F F27 := SF_trans (cF_c24) (SF_gluc (ι := oz_D6clsl_12) oz_D6cls_34 hS27 eF27 (by decide +kernel)) (any_sub (lₚ := [(0, 7), (0, 8), (2, 0), (2, 1), (2, 2)]) (by decide +kernel))
        have mF27 := SFm_of cF27 oz_D6cls_28
        have cA27 : SA oz_D6clsl_3 A A27 := SA_trans (cA_c24) (SA_gluc (ι := oz_D6clsl_12) oz_D6cls_34 hA27 eA27 (by decide +kernel)) (any_subA (lₚ := [3]) (by decide +kernel))
        have mA27 := SAm_of cA27 oz_D6cls_15
        have cD27 : SD oz_D6clsl_3 D D27 := SD_trans (SD_refl) (SD_gluc (ι := oz_D6clsl_12) oz_D6cls_34 hD27 eD27 (by decide +kernel)) (any_subA (lₚ := [3]) (by decide +kernel))
        have mD27 := SDm_of cD27 oz_D6cls_15
        have cN27 : SD oz_D6clsl_3 N N27 := SD_trans (SD_refl) (SD_gluc (ι := oz_D6clsl_12) oz_D6cls_34 hN27 eN27 (by decide +kernel)) (any_subA (lₚ := [3]) (by decide +kernel))
        have mN27 := SDm_of cN27 oz_D6cls_15
        have pf27_2_0 : F27 2 0 = (D27 3 : Int) := (eF27 2 0).trans (pm27_3.trans (congrArg (fun q : Nat => (q : Int)) (eD27 3).symm))
        have r28 : (0 : Int) ≤ m27_3 ∧ m27_3 ≤ 1000000 := nleE (H.nle 3 (ltn len_V211_oz_D6cls rfl)) (show (N27 3 : Int) = m27_3 from (congrArg (fun q : Nat => (q : Int)) (eN27 3)).trans em27_3)
        have r29 : (-2147483648 : Int) ≤ y27_2_1 ∧ y27_2_1 ≤ 2147483647 := rngE (show (-2147483648 : Int) ≤ F27 2 1 ∧ F27 2 1 ≤ 2147483647 from H.krg 2 1 (ltn len_V211_oz_D6cls rfl)) (show F27 2 1 = y27_2_1 from ((eF27 2 1).trans ey27_2_1))
        refine Ew_of (pcₚ := 72) (fun _ => x_istore rfl) ?_
        refine Ew_of (pcₚ := 74) (fun _ => x_iload rfl rk_s) ?_
        refine w_ifeq (t := 91) rfl rfl (show inr (z27) from pz27_0) (fun b30 => ?_) (fun b30 => ?_)
        · refine Ew_of (pcₚ := 133) (fun _ => x_goto rfl rfl) ?_
          exact hc133  _ _ _ _ _ _ _ _  ((rk_o (rk_o (rk_o (rk_o (lc24_0) rfl rfl) rfl rfl) rfl rfl) rfl rfl).trans (congrArg (fun q : Nat => some (Value.ref q)) (mD27 0 rfl).symm)) (rk_o (rk_o (rk_o (rk_o (lc24_1) rfl rfl) rfl rfl) rfl rfl) rfl rfl) (rk_o (rk_o (rk_o (rk_s) rfl rfl) rfl rfl) rfl rfl) H O (SD_trans (SD_refl) (SD_gluc (ι := oz_D6clsl_12) oz_D6cls_34 hD27 eD27 (by decide +kernel)) (any_subA (lₚ := [3]) (by decide +kernel))) (SD_trans (SD_refl) (SD_gluc (ι := oz_D6clsl_12) oz_D6cls_34 hN27 eN27 (by decide +kernel)) (any_subA (lₚ := [3]) (by decide +kernel))) (SF_trans (SF_refl) (SF_gluc (ι := oz_D6clsl_12) oz_D6cls_34 hS27 eF27 (by decide +kernel)) (any_sub (lₚ := [(0, 7), (0, 8), (2, 0), (2, 1), (2, 2)]) (by decide +kernel))) (SA_trans (SA_refl) (SA_gluc (ι := oz_D6clsl_12) oz_D6cls_34 hA27 eA27 (by decide +kernel)) (any_subA (lₚ := [3]) (by decide +kernel))) (pf27_2_0) (m27_3) ((congrArg (fun q : Nat => (q : Int)) (eN27 3)).trans em27_3) (y27_2_1) (((eF27 2 1).trans ey27_2_1))  (show 0 ≤ (y27_2_1) ∧ (y27_2_1) ≤ (m27_3) ∧ (m27_3) ≤ 65536 from pz27_2) (show (u2_1) ≤ (y27_2_1) ∧ (y27_2_1) ≤ (u0_6) by omega)
        · refine Ew_of (pcₚ := 79) (fun _ => x_iload rfl rk_s) ?_
          refine Ew_of (pcₚ := 80) (fun _ => x_iconst rfl) ?_
          refine w_icmpne (t := 88) rfl rfl (show inr (z27) from pz27_0) (show inr (1) from q_23) (fun b31 => ?_) (fun b31 => ?_)
          · refine Ew_of (pcₚ := 90) (fun _ => x_iload rfl rk_s) ?_
            exact w_ireturn rfl (k (z27) _ _ _ _ _ _ _ H O (cD27) (cN27) (cF27) (cA27) (pf27_2_0) (m27_3) ((congrArg (fun q : Nat => (q : Int)) (eN27 3)).trans em27_3) (y27_2_1) (((eF27 2 1).trans ey27_2_1)) (show inr (z27) from pz27_0) (show 0 ≤ (z27) ∧ (z27) ≤ 12 from q_3050 pz27_1) (show 0 ≤ (y27_2_1) ∧ (y27_2_1) ≤ (m27_3) ∧ (m27_3) ≤ 65536 from pz27_2) (show (u2_1) ≤ (y27_2_1) ∧ (y27_2_1) ≤ (u0_6) by omega))
          · refine Ew_of (pcₚ := 85) (fun _ => x_bipush (z := 12) rfl (by decide)) ?_
            refine Ew_of (pcₚ := 90) (fun _ => x_goto rfl rfl) ?_
            exact w_ireturn rfl (k (12) _ _ _ _ _ _ _ H O (cD27) (cN27) (cF27) (cA27) (pf27_2_0) (m27_3) ((congrArg (fun q : Nat => (q : Int)) (eN27 3)).trans em27_3) (y27_2_1) (((eF27 2 1).trans ey27_2_1)) (show inr (12) from q_356) (show 0 ≤ (12) ∧ (12) ≤ 12 by first | exact q_3051 | omega) (show 0 ≤ (y27_2_1) ∧ (y27_2_1) ≤ (m27_3) ∧ (m27_3) ≤ 65536 from pz27_2) (show (u2_1) ≤ (y27_2_1) ∧ (y27_2_1) ≤ (u0_6) by omega))
    refine w_icmpne (t := 24) rfl rfl (show inr (a2) from h1) (show inr (1) from q_23) (fun b32 => ?_) (fun b32 => ?_)
    · exact hc24  _ _ _ _  (rfl) (rfl) (rfl) (rfl) H O (SF_refl) (SA_refl)     (show ((a2) ≠ (1)) ∨ ((a2) = (1) ∧ (a3) ≤ (65540)) from q_3052 b32)
    · refine Ew_of (pcₚ := 11) (fun _ => x_iload_n rfl rfl) ?_
      refine Ew_of (pcₚ := 13) (fun _ => x_ldc (z := 65540) rfl (by decide)) ?_
      refine w_icmple (t := 24) rfl rfl (show inr (a3) from h2) (show inr (65540) from q_848) (fun b33 => ?_) (fun b33 => ?_)
      · exact hc24  _ _ _ _  (rfl) (rfl) (rfl) (rfl) H O (SF_refl) (SA_refl)     (show ((a2) ≠ (1)) ∨ ((a2) = (1) ∧ (a3) ≤ (65540)) from q_3053 b32 b33)
      · refine Ew_of (pcₚ := 17) (fun _ => x_aload_n rfl rfl) ?_
        refine Ew_of (pcₚ := 19) (fun _ => x_bipush (z := 10) rfl (by decide)) ?_
        refine Ew_of (pcₚ := 20) (fun _ => x_iload_n rfl rfl) ?_
        have r34 : (-2147483648 : Int) ≤ F 0 8 ∧ F 0 8 ≤ 2147483647 := H.krg 0 8 (ltn len_V211_oz_D6cls rfl)
        refine v_inv H (o := 0) rfl rfl rfl rfl rfl rfl (by rfl) (C203 (D := puc 0 D) (N := puc 0 N) (HW_subc H oz_D6cls_20 oz_D6cls_29) (F 0 8) (rfl) (show inr (10) from q_532) (show inr (a1) from h0) (fun z35 σ35 F35ₚ A35ₚ Hₚ Oₚ hS35 hA35 y35_0_8 ey35_0_8 pz35_0 pz35_1 pz35_2 => ⟨rfl, ?_⟩))
        refine v_backc (c := c) (s := s) H oz_D6cls_20 oz_D6cls_29 Hₚ Oₚ (fun F35 A35 H Oₚ eF35 eA35 => ?_)
        have O := OUT_trans O Oₚ
        -- Tags.fail
        have cF35 : SF oz_D6clsl_7 F F35 := SF_trans (SF_refl) (SF_gluc (ι := oz_D6clsl_8) oz_D6cls_29 hS35 eF35 (by decide +kernel)) (any_sub (lₚ := [(0, 8)]) (by decide +kernel))
        have mF35 := SFm_of cF35 oz_D6cls_28
        have cA35 : SA oz_D6clsl_3 A A35 := SA_trans (SA_refl) (SA_gluc (ι := oz_D6clsl_8) oz_D6cls_29 hA35 eA35 (by decide +kernel)) (any_subA (lₚ := []) (by decide +kernel))
        have mA35 := SAm_of cA35 oz_D6cls_15
        have r36 : (-2147483648 : Int) ≤ y35_0_8 ∧ y35_0_8 ≤ 2147483647 := rngE (show (-2147483648 : Int) ≤ F35 0 8 ∧ F35 0 8 ≤ 2147483647 from H.krg 0 8 (ltn len_V211_oz_D6cls rfl)) (show F35 0 8 = y35_0_8 from ((eF35 0 8).trans ey35_0_8))
        exact w_ireturn rfl (k (z35) _ _ _ _ _ _ _ H O (SD_refl) (SD_refl) (cF35) (cA35) ((((show F35 2 0 = F 2 0 from (eF35 2 0)))).trans (pf3)) (n3) (en3) (u2_1) ((((show F35 2 1 = F 2 1 from (eF35 2 1))).trans (eu2_1))) (show inr (z35) from pz35_0) (show 0 ≤ (z35) ∧ (z35) ≤ 12 from q_3032 pz35_1) (show 0 ≤ (u2_1) ∧ (u2_1) ≤ (n3) ∧ (n3) ≤ 65536 from h4) (show (u2_1) ≤ (u2_1) ∧ (u2_1) ≤ (u0_6) from q_518 h5))
abbrev V210_Row_Row : vV := [(0, 10, [(4, 0), (4, 0), (4, 0), (4, 0), (0, 0), (4, 0), (0, 0), (2, 0), (0, 0)]), (0, 7, [(4, 0), (0, 0), (1, 0), (0, 0), (0, 0)]), (0, 7, [(4, 0), (0, 0), (1, 0), (0, 0), (0, 0)]), (1, 0, []), (1, 0, [])]
theorem len_V210_Row_Row_oz_D6cls : (V210_Row_Row).length = 5 := by decide +kernel
theorem oz_D6cls_36 : vsub V210_Row_Row V204_Row_Row [0, 1, 2, 3] = true := by decide +kernel
theorem oz_D6cls_37 : vsub V210_Row_Row V203 [0] = true := by decide +kernel
theorem oz_D6cls_38 : vsub V210_Row_Row V211 [0, 3, 2, 4] = true := by decide +kernel
theorem oz_D6cls_39 : vmov V210_Row_Row [0, 3, 2, 4] [3] = true := by decide +kernel
theorem oz_D6cls_40 : vsub V210_Row_Row V192_Br [3] = true := by decide +kernel
theorem oz_D6cls_41 : vsub V210_Row_Row V42_Br [3] = true := by decide +kernel
def oz_D6clsl_13 : List (Nat × Nat) := [(0, 3), (0, 4), (0, 5), (0, 6), (0, 7), (0, 8), (2, 0), (2, 1), (2, 2)]
theorem oz_D6cls_42 : (oz_D6clsl_13).all (fun p => !tbz 129127208515966861816 (Nat.add (Nat.mul 32 p.1) p.2)) = true := by decide +kernel
theorem oz_D6cls_43 : (oz_D6clsl_6).all (fun p => !tbz 16 p) = true := by decide +kernel
def oz_D6clsl_14 : List Nat := [0, 3, 2, 4]
theorem oz_D6cls_44 : okc oz_D6clsl_14 537396736 = true := by decide +kernel
/-- Tags.unpackStream: this, #1, #2, #1.bytes, #2.bytes -/
theorem C210_Row_Row {σE : rS} {D N : Nat → Nat} {F : hF} {A : hA} {d c s : Nat} {Q : wQ} (H : HW V210_Row_Row σE D N F A) (HT : STC σE) {a3 : Int} (pf3 : F 1 0 = (D 3 : Int)) (pf4 : F 2 0 = (D 4 : Int)) (n3 : Int) (en3 : (N 3 : Int) = n3) (n4 : Int) (en4 : (N 4 : Int) = n4) (u1_1 : Int) (eu1_1 : F 1 1 = u1_1) (u2_1 : Int) (eu2_1 : F 2 1 = u2_1) (h0 : inr (a3)) (h1 : 0 ≤ (u1_1) ∧ (u1_1) ≤ (n3) ∧ (n3) ≤ 65536) (h2 : 0 ≤ (u2_1) ∧ (u2_1) ≤ (n4) ∧ (n4) ≤ 65536) (h3 : 0 ≤ (a3) ∧ (a3) ≤ 65536) (h4 : (u2_1) ≤ (a3)) (k : ∀ (z : Int) (σ : rS) (Dₚ Nₚ : Nat → Nat) (Fₚ : hF) (Aₚ : hA) (cₚ sₚ : Nat), HW V210_Row_Row σ Dₚ Nₚ Fₚ Aₚ → OUT (V210_Row_Row).length D N σE c s Dₚ Nₚ σ cₚ sₚ → SD [4] D Dₚ → SD [4] N Nₚ → SF [(0, 3), (0, 4), (0, 5), (0, 6), (0, 7), (0, 8), (2, 0), (2, 1), (2, 2)] F Fₚ → SA [4] A Aₚ → Fₚ 2 0 = (Dₚ 4 : Int) → ∀ m4 : Int, (Nₚ 4 : Int) = m4 → ∀ y2_1 : Int, Fₚ 2 1 = y2_1 → (inr (z)) → (0 ≤ (z) ∧ (z) ≤ 12) → (0 ≤ (y2_1) ∧ (y2_1) ≤ (m4) ∧ (m4) ≤ 65536) → Q (some (I z)) σ cₚ sₚ) : Ew 210 (d + 5) 0 (rargs 0 [.ref (D 0), .ref (D 1), .ref (D 2), I a3]) [] σE c s Q := by
  have O := OUT_refl (n := (V210_Row_Row).length) (D := D) (N := N) (σ := σE) (c := c) (s := s)
  have HE := H
  have r1 : (-2147483648 : Int) ≤ u1_1 ∧ u1_1 ≤ 2147483647 := rngE (show (-2147483648 : Int) ≤ F 1 1 ∧ F 1 1 ≤ 2147483647 from H.krg 1 1 (ltn len_V210_Row_Row_oz_D6cls rfl)) (show F 1 1 = u1_1 from (eu1_1))
  have r2 : (-2147483648 : Int) ≤ u2_1 ∧ u2_1 ≤ 2147483647 := rngE (show (-2147483648 : Int) ≤ F 2 1 ∧ F 2 1 ≤ 2147483647 from H.krg 2 1 (ltn len_V210_Row_Row_oz_D6cls rfl)) (show F 2 1 = u2_1 from (eu2_1))
  have r3 : (0 : Int) ≤ n3 ∧ n3 ≤ 1000000 := nleE (H.nle 3 (ltn len_V210_Row_Row_oz_D6cls rfl)) (show (N 3 : Int) = n3 from en3)
  have r4 : (0 : Int) ≤ n4 ∧ n4 ≤ 1000000 := nleE (H.nle 4 (ltn len_V210_Row_Row_oz_D6cls rfl)) (show (N 4 : Int) = n4 from en4)
  refine Ew_of (pcₚ := 1) (fun _ => x_aload_n rfl rfl) ?_
  refine Ew_of (pcₚ := 2) (fun _ => x_aload_n rfl rfl) ?_
  refine Ew_of (pcₚ := 3) (fun _ => x_aload_n rfl rfl) ?_
  refine Ew_of (pcₚ := 4) (fun _ => x_iload_n rfl rfl) ?_
  have r5 : (-2147483648 : Int) ≤ F 0 4 ∧ F 0 4 ≤ 2147483647 := H.krg 0 4 (ltn len_V210_Row_Row_oz_D6cls rfl)
  have r6 : (-2147483648 : Int) ≤ F 0 6 ∧ F 0 6 ≤ 2147483647 := H.krg 0 6 (ltn len_V210_Row_Row_oz_D6cls rfl)
  have r7 : (-2147483648 : Int) ≤ F 0 8 ∧ F 0 8 ≤ 2147483647 := H.krg 0 8 (ltn len_V210_Row_Row_oz_D6cls rfl)
  refine v_inv H (o := 0) rfl rfl rfl rfl rfl rfl (by rfl) (C204_Row_Row (D := puc 403177984 D) (N := puc 403177984 N) (HW_subc H oz_D6cls_36 oz_D6cls_34) (pf3) (n3) (en3) (F 0 4) (rfl) (F 0 6) (rfl) (F 0 8) (rfl) (u1_1) ((eu1_1)) (show inr (a3) from h0) (fun σ8 F8ₚ A8ₚ Hₚ Oₚ hS8 hA8 y8_0_4 ey8_0_4 y8_0_6 ey8_0_6 y8_0_8 ey8_0_8 pq8_0 pq8_1 pz8_0 => ⟨rfl, ?_⟩))
  refine v_backc (c := c) (s := s) H oz_D6cls_36 oz_D6cls_34 Hₚ Oₚ (fun F8 A8 H Oₚ eF8 eA8 => ?_)
  have O := OUT_trans O Oₚ
  -- Tags.begin
  have cF8 : SF oz_D6clsl_13 F F8 := SF_trans (SF_refl) (SF_gluc (ι := oz_D6clsl_12) oz_D6cls_34 hS8 eF8 (by decide +kernel)) (any_sub (lₚ := [(0, 3), (0, 4), (0, 5), (0, 6), (0, 8)]) (by decide +kernel))
  have mF8 := SFm_of cF8 oz_D6cls_42
  have cA8 : SA oz_D6clsl_6 A A8 := SA_trans (SA_refl) (SA_gluc (ι := oz_D6clsl_12) oz_D6cls_34 hA8 eA8 (by decide +kernel)) (any_subA (lₚ := []) (by decide +kernel))
  have mA8 := SAm_of cA8 oz_D6cls_43
  have pl8_0 : F8 0 3 = (D 3 : Int) := (eF8 0 3).trans (pq8_0)
  have pl8_1 : F8 0 5 = (D 2 : Int) := (eF8 0 5).trans (pq8_1)
  have r9 : (-2147483648 : Int) ≤ y8_0_4 ∧ y8_0_4 ≤ 2147483647 := rngE (show (-2147483648 : Int) ≤ F8 0 4 ∧ F8 0 4 ≤ 2147483647 from H.krg 0 4 (ltn len_V210_Row_Row_oz_D6cls rfl)) (show F8 0 4 = y8_0_4 from ((eF8 0 4).trans ey8_0_4))
  have r10 : (-2147483648 : Int) ≤ y8_0_6 ∧ y8_0_6 ≤ 2147483647 := rngE (show (-2147483648 : Int) ≤ F8 0 6 ∧ F8 0 6 ≤ 2147483647 from H.krg 0 6 (ltn len_V210_Row_Row_oz_D6cls rfl)) (show F8 0 6 = y8_0_6 from ((eF8 0 6).trans ey8_0_6))
  have r11 : (-2147483648 : Int) ≤ y8_0_8 ∧ y8_0_8 ≤ 2147483647 := rngE (show (-2147483648 : Int) ≤ F8 0 8 ∧ F8 0 8 ≤ 2147483647 from H.krg 0 8 (ltn len_V210_Row_Row_oz_D6cls rfl)) (show F8 0 8 = y8_0_8 from ((eF8 0 8).trans ey8_0_8))
  refine Ew_of (pcₚ := 8) (fun _ => x_iconst rfl) ?_
  refine Ew_of (pcₚ := 10) (fun _ => x_istore rfl) ?_
  refine Ew_of (pcₚ := 11) (fun _ => x_iconst rfl) ?_
  refine Ew_of (pcₚ := 13) (fun _ => x_istore rfl) ?_
  suffices hl13 : ∀ (m : Nat), ∀ (ls : rO) (σ : rS) (D_13 N_13 : Nat → Nat) (c_13 s_13 : Nat) (F_13 : hF) (A_13 : hA) (x13_4 : Int) (x13_5 : Int), rlook ls 0 = some (.ref (D_13 0)) → rlook ls 4 = some (I (x13_4)) → rlook ls 5 = some (I (x13_5)) → HW V210_Row_Row σ D_13 N_13 F_13 A_13 → OUT (V210_Row_Row).length D N σE c s D_13 N_13 σ c_13 s_13 → SD [4] D D_13 → SD [4] N N_13 → SF [(0, 7), (0, 8), (2, 0), (2, 1), (2, 2)] F8 F_13 → SA [4] A8 A_13 → F_13 2 0 = (D_13 4 : Int) → ∀ m13_4 : Int, (N_13 4 : Int) = m13_4 → ∀ y13_2_1 : Int, F_13 2 1 = y13_2_1 → (inr (x13_4)) → (inr (x13_5)) → ((0) ≤ (x13_5)) → ((x13_5) ≤ (0) ∨ (x13_5) ≤ ((y8_0_4))) → (0 ≤ (x13_4) ∧ (x13_4) ≤ (y8_0_4)) → (0 ≤ (y13_2_1) ∧ (y13_2_1) ≤ (m13_4) ∧ (m13_4) ≤ 65536) → ((y13_2_1) ≤ (a3)) → (0 ≤ (y8_0_4) ∧ (y8_0_4) ≤ (n3)) → (((y8_0_4)) - (x13_5)).toNat = m → Ew 210 (d + 5) 13 ls [] σ c_13 s_13 Q from
    hl13 _ _ _ _ _ _ _ _ _ (0) (0) (rk_o (rk_o (rfl) rfl rfl) rfl rfl) (rk_o (rk_s) rfl rfl) (rk_s) H O (SD_refl) (SD_refl) (SF_refl) (SA_refl) ((((show F8 2 0 = F 2 0 from (eF8 2 0).trans (hS8 2 0 rfl)))).trans (pf4)) (n4) (en4) (u2_1) ((((show F8 2 1 = F 2 1 from (eF8 2 1).trans (hS8 2 1 rfl))).trans (eu2_1)))  (show inr (0) from q_20) (show inr (0) from q_20) (show (0) ≤ (0) from q_25) (show (0) ≤ (0) ∨ (0) ≤ ((y8_0_4)) from q_24) (show 0 ≤ (0) ∧ (0) ≤ (y8_0_4) from q_3007 h1 pz8_0) (show 0 ≤ (u2_1) ∧ (u2_1) ≤ (n4) ∧ (n4) ≤ 65536 from h2) (show (u2_1) ≤ (a3) from h4) (show 0 ≤ (y8_0_4) ∧ (y8_0_4) ≤ (n3) from q_3006 h1 pz8_0) rfl
  as_aux_lemma =>
  intro m
  induction m using Nat.strongRecOn with
  | _ m ih13 =>
    intro ls σ D_13 N_13 c_13 s_13 F_13 A_13 x13_4 x13_5 l13_0 l13_4 l13_5 H O hD_13 hN_13 hS_13 hA_13 pm13_4 m13_4 em13_4 y13_2_1 ey13_2_1  j13_0 j13_1 j13_2 j13_3 j13_4 j13_5 j13_6 j13_7 hm13
    have cF_13 : SF oz_D6clsl_13 F F_13 := SF_trans (cF8) hS_13 (any_sub (by decide +kernel))
    have mF_13 := SFm_of cF_13 oz_D6cls_42
    have cA_13 : SA oz_D6clsl_6 A A_13 := SA_trans (cA8) hA_13 (any_subA (by decide +kernel))
    have mA_13 := SAm_of cA_13 oz_D6cls_43
    have cD_13 : SD oz_D6clsl_6 D D_13 := SD_trans (SD_refl) hD_13 (any_subA (by decide +kernel))
    have mD_13 := SDm_of cD_13 oz_D6cls_43
    have cN_13 : SD oz_D6clsl_6 N N_13 := SD_trans (SD_refl) hN_13 (any_subA (by decide +kernel))
    have mN_13 := SDm_of cN_13 oz_D6cls_43
    have pf_13_0_3 : F_13 0 3 = (D_13 3 : Int) := (hS_13 0 3 rfl).trans ((pl8_0).trans (congrArg (fun q : Nat => (q : Int)) (hD_13 3 rfl).symm))
    have pf_13_0_5 : F_13 0 5 = (D_13 2 : Int) := (hS_13 0 5 rfl).trans ((pl8_1).trans (congrArg (fun q : Nat => (q : Int)) (hD_13 2 rfl).symm))
    have r12 : (0 : Int) ≤ m13_4 ∧ m13_4 ≤ 1000000 := nleE (H.nle 4 (ltn len_V210_Row_Row_oz_D6cls rfl)) (show (N_13 4 : Int) = m13_4 from em13_4)
    have r13 : (-2147483648 : Int) ≤ y13_2_1 ∧ y13_2_1 ≤ 2147483647 := rngE (show (-2147483648 : Int) ≤ F_13 2 1 ∧ F_13 2 1 ≤ 2147483647 from H.krg 2 1 (ltn len_V210_Row_Row_oz_D6cls rfl)) (show F_13 2 1 = y13_2_1 from (ey13_2_1))
    refine Ew_of (pcₚ := 15) (fun _ => x_iload rfl l13_5) ?_
    refine Ew_of (pcₚ := 16) (fun _ => x_aload_n rfl l13_0) ?_
    refine v_g H (o := 0) (v := I (y8_0_4)) rfl rfl rfl rfl rfl (congrArg (fun z : Int => I z) (((hS_13 0 4 rfl).trans ((eF8 0 4).trans ey8_0_4)) : F_13 0 4 = y8_0_4)) ?_
    have hc227 : ∀ (ls : rO) (σ : rS) (F_c227 : hF) (A_c227 : hA) , rlook ls 0 = some (.ref (D_13 0)) → HW V210_Row_Row σ D_13 N_13 F_c227 A_c227 → OUT (V210_Row_Row).length D N σE c s D_13 N_13 σ c_13 s_13 → SF [] F_13 F_c227 → SA [] A_13 A_c227 → (((x13_5) ≥ (y8_0_4)) ∨ ((x13_5) < (y8_0_4) ∧ (x13_4) ≥ (y8_0_4))) → Ew 210 (d + 5) 227 ls [] σ c_13 s_13 Q := by
     as_aux_lemma =>
      intro  ls σ F_c227 A_c227  lc227_0 H O hS_c227 hA_c227     jc227_0
      have cF_c227 : SF oz_D6clsl_13 F F_c227 := SF_trans (cF_13) hS_c227 (any_sub (by decide +kernel))
      have mF_c227 := SFm_of cF_c227 oz_D6cls_42
      have cA_c227 : SA oz_D6clsl_6 A A_c227 := SA_trans (cA_13) hA_c227 (any_subA (by decide +kernel))
      have mA_c227 := SAm_of cA_c227 oz_D6cls_43
      refine Ew_of (pcₚ := 228) (fun _ => x_aload_n rfl lc227_0) ?_
      refine Ew_of (pcₚ := 229) (fun _ => x_iconst rfl) ?_
      refine Ew_of (pcₚ := 230) (fun _ => x_aload_n rfl lc227_0) ?_
      refine v_g H (o := 0) (v := I (y8_0_4)) rfl rfl rfl rfl rfl (congrArg (fun z : Int => I z) ((((hS_c227 0 4 rfl).trans (hS_13 0 4 rfl)).trans ((eF8 0 4).trans ey8_0_4)) : F_c227 0 4 = y8_0_4)) ?_
      have r14 : (-2147483648 : Int) ≤ F_13 0 8 ∧ F_13 0 8 ≤ 2147483647 := rngE (show (-2147483648 : Int) ≤ F_c227 0 8 ∧ F_c227 0 8 ≤ 2147483647 from H.krg 0 8 (ltn len_V210_Row_Row_oz_D6cls rfl)) (show F_c227 0 8 = F_13 0 8 from (hS_c227 0 8 rfl))
      refine v_inv H (o := 0) rfl rfl rfl rfl rfl rfl (by rfl) (C203 (D := puc 0 D_13) (N := puc 0 N_13) (HW_subc H oz_D6cls_37 oz_D6cls_29) (F_13 0 8) ((hS_c227 0 8 rfl)) (show inr (0) from q_20) (show inr (y8_0_4) from q_275 j13_7 r9) (fun z15 σ15 F15ₚ A15ₚ Hₚ Oₚ hS15 hA15 y15_0_8 ey15_0_8 pz15_0 pz15_1 pz15_2 => ⟨rfl, ?_⟩))
      refine v_backc (c := c_13) (s := s_13) H oz_D6cls_37 oz_D6cls_29 Hₚ Oₚ (fun F15 A15 H Oₚ eF15 eA15 => ?_)
      have O := OUT_trans O Oₚ
      -- Tags.fail
      have cF15 : SF oz_D6clsl_13 F F15 := SF_trans (cF_c227) (SF_gluc (ι := oz_D6clsl_8) oz_D6cls_29 hS15 eF15 (by decide +kernel)) (any_sub (lₚ := [(0, 8)]) (by decide +kernel))
      have mF15 := SFm_of cF15 oz_D6cls_42
      have cA15 : SA oz_D6clsl_6 A A15 := SA_trans (cA_c227) (SA_gluc (ι := oz_D6clsl_8) oz_D6cls_29 hA15 eA15 (by decide +kernel)) (any_subA (lₚ := []) (by decide +kernel))
      have mA15 := SAm_of cA15 oz_D6cls_43
      have r16 : (-2147483648 : Int) ≤ y15_0_8 ∧ y15_0_8 ≤ 2147483647 := rngE (show (-2147483648 : Int) ≤ F15 0 8 ∧ F15 0 8 ≤ 2147483647 from H.krg 0 8 (ltn len_V210_Row_Row_oz_D6cls rfl)) (show F15 0 8 = y15_0_8 from ((eF15 0 8).trans ey15_0_8))
      exact w_ireturn rfl (k (z15) _ _ _ _ _ _ _ H O (cD_13) (cN_13) (cF15) (cA15) (((((show F15 2 0 = F_c227 2 0 from (eF15 2 0))).trans (hS_c227 2 0 rfl))).trans (pm13_4)) (m13_4) (em13_4) (y13_2_1) (((((show F15 2 1 = F_c227 2 1 from (eF15 2 1))).trans (hS_c227 2 1 rfl)).trans (ey13_2_1))) (show inr (z15) from pz15_0) (show 0 ≤ (z15) ∧ (z15) ≤ 12 from q_3054 pz15_1) (show 0 ≤ (y13_2_1) ∧ (y13_2_1) ≤ (m13_4) ∧ (m13_4) ≤ 65536 from j13_5))
    refine w_icmpge (t := 227) rfl rfl (show inr (x13_5) from j13_1) (show inr (y8_0_4) from q_275 j13_7 r9) (fun b17 => ?_) (fun b17 => ?_)
    · exact hc227  _ _ _ _  (l13_0) H O (SF_refl) (SA_refl)     (show ((x13_5) ≥ (y8_0_4)) ∨ ((x13_5) < (y8_0_4) ∧ (x13_4) ≥ (y8_0_4)) from q_2905 b17)
    · refine Ew_of (pcₚ := 24) (fun _ => x_iload rfl l13_4) ?_
      refine Ew_of (pcₚ := 25) (fun _ => x_aload_n rfl l13_0) ?_
      refine v_g H (o := 0) (v := I (y8_0_4)) rfl rfl rfl rfl rfl (congrArg (fun z : Int => I z) (((hS_13 0 4 rfl).trans ((eF8 0 4).trans ey8_0_4)) : F_13 0 4 = y8_0_4)) ?_
      refine w_icmpge (t := 227) rfl rfl (show inr (x13_4) from j13_0) (show inr (y8_0_4) from q_275 j13_7 r9) (fun b18 => ?_) (fun b18 => ?_)
      · exact hc227  _ _ _ _  (l13_0) H O (SF_refl) (SA_refl)     (show ((x13_5) ≥ (y8_0_4)) ∨ ((x13_5) < (y8_0_4) ∧ (x13_4) ≥ (y8_0_4)) from q_2906 b17 b18)
      · refine Ew_of (pcₚ := 32) (fun _ => x_aload_n rfl l13_0) ?_
        refine v_g H (o := 0) (v := .ref (D_13 3)) rfl rfl rfl rfl rfl (vrf (pf_13_0_3)) ?_
        refine Ew_of (pcₚ := 37) (fun _ => x_iload rfl l13_4) ?_
        refine v_lB H (o := 3) rfl rfl rfl rfl (n := n3) ((congrArg (fun q : Nat => (q : Int)) (mN_13 3 rfl)).trans (en3)) (show 0 ≤ x13_4 ∧ x13_4 < n3 from q_3055 b18 j13_4 j13_7) (fun v19 ev19 qv19 => ?_)
        have ev19 : (A 3) (x13_4) = v19 := (congrFun (funext (mA_13 3 rfl)) (x13_4)).symm.trans ev19
        refine Ew_of (pcₚ := 41) (fun _ => x_sipush (z := 255) rfl (by decide)) ?_
        refine w_iand rfl (show inr (v19) from q_2536 qv19) (show inr (255) from q_36) (fun z20 gz20 gaz20 gbz20 => ?_)
        refine Ew_of (pcₚ := 44) (fun _ => x_istore rfl) ?_
        refine Ew_of (pcₚ := 46) (fun _ => x_iload rfl (rk_o (l13_4) rfl rfl)) ?_
        have hc66 : ∀ (ls : rO) (σ : rS) (F_c66 : hF) (A_c66 : hA) , rlook ls 0 = some (.ref (D_13 0)) → rlook ls 4 = some (I (x13_4)) → rlook ls 5 = some (I (x13_5)) → rlook ls 6 = some (I (z20)) → HW V210_Row_Row σ D_13 N_13 F_c66 A_c66 → OUT (V210_Row_Row).length D N σE c s D_13 N_13 σ c_13 s_13 → SF [] F_13 F_c66 → SA [] A_13 A_c66 → (((x13_4) ≠ (0)) ∨ ((x13_4) = (0) ∧ (z20) = (255))) → Ew 210 (d + 5) 66 ls [] σ c_13 s_13 Q := by
         as_aux_lemma =>
          intro  ls σ F_c66 A_c66  lc66_0 lc66_4 lc66_5 lc66_6 H O hS_c66 hA_c66     jc66_0
          have cF_c66 : SF oz_D6clsl_13 F F_c66 := SF_trans (cF_13) hS_c66 (any_sub (by decide +kernel))
          have mF_c66 := SFm_of cF_c66 oz_D6cls_42
          have cA_c66 : SA oz_D6clsl_6 A A_c66 := SA_trans (cA_13) hA_c66 (any_subA (by decide +kernel))
          have mA_c66 := SAm_of cA_c66 oz_D6cls_43
          refine Ew_of (pcₚ := 68) (fun _ => x_iload rfl lc66_6) ?_
          refine Ew_of (pcₚ := 69) (fun _ => x_iconst rfl) ?_
          have hc88 : ∀ (ls : rO) (σ : rS) (F_c88 : hF) (A_c88 : hA) , rlook ls 0 = some (.ref (D_13 0)) → rlook ls 4 = some (I (x13_4)) → rlook ls 5 = some (I (x13_5)) → rlook ls 6 = some (I (z20)) → HW V210_Row_Row σ D_13 N_13 F_c88 A_c88 → OUT (V210_Row_Row).length D N σE c s D_13 N_13 σ c_13 s_13 → SF [] F_c66 F_c88 → SA [] A_c66 A_c88 → (((z20) < (2)) ∨ ((z20) ≥ (2) ∧ (z20) > (127))) → Ew 210 (d + 5) 88 ls [] σ c_13 s_13 Q := by
           as_aux_lemma =>
            intro  ls σ F_c88 A_c88  lc88_0 lc88_4 lc88_5 lc88_6 H O hS_c88 hA_c88     jc88_0
            have cF_c88 : SF oz_D6clsl_13 F F_c88 := SF_trans (cF_c66) hS_c88 (any_sub (by decide +kernel))
            have mF_c88 := SFm_of cF_c88 oz_D6cls_42
            have cA_c88 : SA oz_D6clsl_6 A A_c88 := SA_trans (cA_c66) hA_c88 (any_subA (by decide +kernel))
            have mA_c88 := SAm_of cA_c88 oz_D6cls_43
            have hc119 : ∀ (tc119_0 : Int), ∀ (ls : rO) (σ : rS) (F_c119 : hF) (A_c119 : hA) , rlook ls 0 = some (.ref (D_13 0)) → rlook ls 4 = some (I (x13_4)) → rlook ls 5 = some (I (x13_5)) → rlook ls 6 = some (I (z20)) → HW V210_Row_Row σ D_13 N_13 F_c119 A_c119 → OUT (V210_Row_Row).length D N σE c s D_13 N_13 σ c_13 s_13 → SF [] F_c88 F_c119 → SA [] A_c88 A_c119 → (inr (tc119_0)) → (0 ≤ (tc119_0) ∧ (tc119_0) ≤ 16777215) → Ew 210 (d + 5) 119 ls [I (tc119_0)] σ c_13 s_13 Q := by
             as_aux_lemma =>
              intro tc119_0 ls σ F_c119 A_c119  lc119_0 lc119_4 lc119_5 lc119_6 H O hS_c119 hA_c119     jc119_0 jc119_1
              have cF_c119 : SF oz_D6clsl_13 F F_c119 := SF_trans (cF_c88) hS_c119 (any_sub (by decide +kernel))
              have mF_c119 := SFm_of cF_c119 oz_D6cls_42
              have cA_c119 : SA oz_D6clsl_6 A A_c119 := SA_trans (cA_c88) hA_c119 (any_subA (by decide +kernel))
              have mA_c119 := SAm_of cA_c119 oz_D6cls_43
              refine Ew_of (pcₚ := 121) (fun _ => x_istore rfl) ?_
              refine Ew_of (pcₚ := 122) (fun _ => x_aload_n rfl (rk_o (lc119_0) rfl rfl)) ?_
              refine v_g H (o := 0) (v := I (y8_0_4)) rfl rfl rfl rfl rfl (congrArg (fun z : Int => I z) ((((((hS_c119 0 4 rfl).trans (hS_c88 0 4 rfl)).trans (hS_c66 0 4 rfl)).trans (hS_13 0 4 rfl)).trans ((eF8 0 4).trans ey8_0_4)) : F_c119 0 4 = y8_0_4)) ?_
              refine Ew_of (pcₚ := 127) (fun _ => x_iload rfl (rk_o (lc119_4) rfl rfl)) ?_
              refine w_isub rfl ?_
              refine Ew_of (pcₚ := 129) (fun _ => x_iconst rfl) ?_
              refine w_isub rfl ?_
              refine Ew_of (pcₚ := 132) (fun _ => x_iload rfl rk_s) ?_
              refine w_icmpge (t := 146) rfl rfl (show inr (((y8_0_4 - x13_4) - 4)) from q_3056 b18 j13_4 r9) (show inr (tc119_0) from jc119_0) (fun b21 => ?_) (fun b21 => ?_)
              · have hc186 : ∀ (ls : rO) (σ : rS) (F_c186 : hF) (A_c186 : hA) , rlook ls 0 = some (.ref (D_13 0)) → rlook ls 4 = some (I (x13_4)) → rlook ls 5 = some (I (x13_5)) → rlook ls 6 = some (I (z20)) → rlook ls 7 = some (I (tc119_0)) → HW V210_Row_Row σ D_13 N_13 F_c186 A_c186 → OUT (V210_Row_Row).length D N σE c s D_13 N_13 σ c_13 s_13 → SF [] F_c119 F_c186 → SA [] A_c119 A_c186 → Ew 210 (d + 5) 186 ls [] σ c_13 s_13 Q := by
                 as_aux_lemma =>
                  intro  ls σ F_c186 A_c186  lc186_0 lc186_4 lc186_5 lc186_6 lc186_7 H O hS_c186 hA_c186     
                  have cF_c186 : SF oz_D6clsl_13 F F_c186 := SF_trans (cF_c119) hS_c186 (any_sub (by decide +kernel))
                  have mF_c186 := SFm_of cF_c186 oz_D6cls_42
                  have cA_c186 : SA oz_D6clsl_6 A A_c186 := SA_trans (cA_c119) hA_c186 (any_subA (by decide +kernel))
                  have mA_c186 := SAm_of cA_c186 oz_D6cls_43
                  have hc212 : ∀ (ls : rO) (σ : rS) (D_c212 N_c212 : Nat → Nat) (c_c212 s_c212 : Nat) (F_c212 : hF) (A_c212 : hA) , rlook ls 0 = some (.ref (D_c212 0)) → rlook ls 4 = some (I (x13_4)) → rlook ls 5 = some (I (x13_5)) → rlook ls 7 = some (I (tc119_0)) → HW V210_Row_Row σ D_c212 N_c212 F_c212 A_c212 → OUT (V210_Row_Row).length D N σE c s D_c212 N_c212 σ c_c212 s_c212 → SD [4] D_13 D_c212 → SD [4] N_13 N_c212 → SF [(0, 7), (0, 8), (2, 0), (2, 1), (2, 2)] F_c186 F_c212 → SA [4] A_c186 A_c212 → F_c212 2 0 = (D_c212 4 : Int) → ∀ mc212_4 : Int, (N_c212 4 : Int) = mc212_4 → ∀ yc212_2_1 : Int, F_c212 2 1 = yc212_2_1 → (0 ≤ (x13_4) ∧ (x13_4) ≤ (y8_0_4)) → (0 ≤ (yc212_2_1) ∧ (yc212_2_1) ≤ (mc212_4) ∧ (mc212_4) ≤ 65536) → ((yc212_2_1) ≤ (a3)) → (0 ≤ (y8_0_4) ∧ (y8_0_4) ≤ (n3)) → Ew 210 (d + 5) 212 ls [] σ c_c212 s_c212 Q := by
                   as_aux_lemma =>
                    intro  ls σ D_c212 N_c212 c_c212 s_c212 F_c212 A_c212  lc212_0 lc212_4 lc212_5 lc212_7 H O hD_c212 hN_c212 hS_c212 hA_c212 pmc212_4 mc212_4 emc212_4 yc212_2_1 eyc212_2_1  jc212_0 jc212_1 jc212_2 jc212_3
                    have cF_c212 : SF oz_D6clsl_13 F F_c212 := SF_trans (cF_c186) hS_c212 (any_sub (by decide +kernel))
                    have mF_c212 := SFm_of cF_c212 oz_D6cls_42
                    have cA_c212 : SA oz_D6clsl_6 A A_c212 := SA_trans (cA_c186) hA_c212 (any_subA (by decide +kernel))
                    have mA_c212 := SAm_of cA_c212 oz_D6cls_43
                    have cD_c212 : SD oz_D6clsl_6 D D_c212 := SD_trans (cD_13) hD_c212 (any_subA (by decide +kernel))
                    have mD_c212 := SDm_of cD_c212 oz_D6cls_43
                    have cN_c212 : SD oz_D6clsl_6 N N_c212 := SD_trans (cN_13) hN_c212 (any_subA (by decide +kernel))
                    have mN_c212 := SDm_of cN_c212 oz_D6cls_43
                    have pf_c212_0_3 : F_c212 0 3 = (D_c212 3 : Int) := (hS_c212 0 3 rfl).trans (((((((hS_c186 0 3 rfl).trans (hS_c119 0 3 rfl)).trans (hS_c88 0 3 rfl)).trans (hS_c66 0 3 rfl))).trans (pf_13_0_3)).trans (congrArg (fun q : Nat => (q : Int)) (hD_c212 3 rfl).symm))
                    have pf_c212_0_5 : F_c212 0 5 = (D_c212 2 : Int) := (hS_c212 0 5 rfl).trans (((((((hS_c186 0 5 rfl).trans (hS_c119 0 5 rfl)).trans (hS_c88 0 5 rfl)).trans (hS_c66 0 5 rfl))).trans (pf_13_0_5)).trans (congrArg (fun q : Nat => (q : Int)) (hD_c212 2 rfl).symm))
                    have r22 : (0 : Int) ≤ mc212_4 ∧ mc212_4 ≤ 1000000 := nleE (H.nle 4 (ltn len_V210_Row_Row_oz_D6cls rfl)) (show (N_c212 4 : Int) = mc212_4 from emc212_4)
                    have r23 : (-2147483648 : Int) ≤ yc212_2_1 ∧ yc212_2_1 ≤ 2147483647 := rngE (show (-2147483648 : Int) ≤ F_c212 2 1 ∧ F_c212 2 1 ≤ 2147483647 from H.krg 2 1 (ltn len_V210_Row_Row_oz_D6cls rfl)) (show F_c212 2 1 = yc212_2_1 from (eyc212_2_1))
                    refine Ew_of (pcₚ := 214) (fun _ => x_iload rfl lc212_4) ?_
                    refine Ew_of (pcₚ := 215) (fun _ => x_iconst rfl) ?_
                    refine Ew_of (pcₚ := 217) (fun _ => x_iload rfl lc212_7) ?_
                    refine w_iadd rfl ?_
                    refine w_iadd rfl ?_
                    refine Ew_of (pcₚ := 221) (fun _ => x_istore rfl) ?_
                    refine Ew_of (pcₚ := 224) (fun _ => x_iinc (len := 3) rfl (rk_o (lc212_5) rfl rfl)) ?_
                    refine Ew_of (pcₚ := 13) (fun _ => x_goto rfl rfl) ?_
                    exact ih13 _ (msE hm13 q_31 (q_34 b17)) _ _ _ _ _ _ _ _ ((x13_4 + (4 + tc119_0))) ((x13_5 + 1)) (rk_o (rk_o (lc212_0) rfl rfl) rfl rfl) (rk_o (rk_s) rfl rfl) (rk_s) H O (SD_trans (hD_13) hD_c212 (any_subA (by decide +kernel))) (SD_trans (hN_13) hN_c212 (any_subA (by decide +kernel))) (SF_trans (SF_trans (SF_trans (SF_trans (SF_trans (hS_13) hS_c66 (any_sub (by decide +kernel))) hS_c88 (any_sub (by decide +kernel))) hS_c119 (any_sub (by decide +kernel))) hS_c186 (any_sub (by decide +kernel))) hS_c212 (any_sub (by decide +kernel))) (SA_trans (SA_trans (SA_trans (SA_trans (SA_trans (hA_13) hA_c66 (any_subA (by decide +kernel))) hA_c88 (any_subA (by decide +kernel))) hA_c119 (any_subA (by decide +kernel))) hA_c186 (any_subA (by decide +kernel))) hA_c212 (any_subA (by decide +kernel))) (pmc212_4) (mc212_4) (emc212_4) (yc212_2_1) ((eyc212_2_1))  (show inr ((x13_4 + (4 + tc119_0))) from q_3058 b21 jc119_1 jc212_0 r9) (show inr ((x13_5 + 1)) from q_3013 b17 j13_2 jc212_3 r3) (show (0) ≤ ((x13_5 + 1)) from q_29 j13_2) (show ((x13_5 + 1)) ≤ (0) ∨ ((x13_5 + 1)) ≤ ((y8_0_4)) from q_33 b17) (show 0 ≤ ((x13_4 + (4 + tc119_0))) ∧ ((x13_4 + (4 + tc119_0))) ≤ (y8_0_4) from q_3057 b21 jc119_1 jc212_0) (show 0 ≤ (yc212_2_1) ∧ (yc212_2_1) ≤ (mc212_4) ∧ (mc212_4) ≤ 65536 from jc212_1) (show (yc212_2_1) ≤ (a3) from jc212_2) (show 0 ≤ (y8_0_4) ∧ (y8_0_4) ≤ (n3) from jc212_3) rfl
                  refine Ew_of (pcₚ := 188) (fun _ => x_iload rfl lc186_6) ?_
                  refine Ew_of (pcₚ := 189) (fun _ => x_iconst rfl) ?_
                  refine w_icmpge (t := 212) rfl rfl (show inr (z20) from gz20) (show inr (2) from q_55) (fun b24 => ?_) (fun b24 => ?_)
                  · exact hc212  _ _ _ _ _ _ _ _  (lc186_0) (lc186_4) (lc186_5) (lc186_7) H O (SD_refl) (SD_refl) (SF_refl) (SA_refl) ((((((hS_c186 2 0 rfl).trans (hS_c119 2 0 rfl)).trans (hS_c88 2 0 rfl)).trans (hS_c66 2 0 rfl))).trans (pm13_4)) (m13_4) (em13_4) (y13_2_1) ((((((hS_c186 2 1 rfl).trans (hS_c119 2 1 rfl)).trans (hS_c88 2 1 rfl)).trans (hS_c66 2 1 rfl)).trans (ey13_2_1)))  (show 0 ≤ (x13_4) ∧ (x13_4) ≤ (y8_0_4) from j13_4) (show 0 ≤ (y13_2_1) ∧ (y13_2_1) ≤ (m13_4) ∧ (m13_4) ≤ 65536 from j13_5) (show (y13_2_1) ≤ (a3) from j13_6) (show 0 ≤ (y8_0_4) ∧ (y8_0_4) ≤ (n3) from j13_7)
                  · refine Ew_of (pcₚ := 193) (fun _ => x_aload_n rfl lc186_0) ?_
                    refine Ew_of (pcₚ := 195) (fun _ => x_iload rfl lc186_4) ?_
                    refine Ew_of (pcₚ := 197) (fun _ => x_iload rfl lc186_6) ?_
                    refine Ew_of (pcₚ := 199) (fun _ => x_iload rfl lc186_7) ?_
                    refine v_inv H (o := 0) rfl rfl rfl rfl rfl rfl (by rfl) (C211 (D := puc 537396736 D_13) (N := puc 537396736 N_13) (HW_subc H oz_D6cls_38 oz_D6cls_44) (STC_out HT HE O) ((((((hS_c186 0 3 rfl).trans (hS_c119 0 3 rfl)).trans (hS_c88 0 3 rfl)).trans (hS_c66 0 3 rfl))).trans (pf_13_0_3)) ((((((hS_c186 0 5 rfl).trans (hS_c119 0 5 rfl)).trans (hS_c88 0 5 rfl)).trans (hS_c66 0 5 rfl))).trans (pf_13_0_5)) ((((((hS_c186 2 0 rfl).trans (hS_c119 2 0 rfl)).trans (hS_c88 2 0 rfl)).trans (hS_c66 2 0 rfl))).trans (pm13_4)) (n3) ((congrArg (fun q : Nat => (q : Int)) (mN_13 3 rfl)).trans (en3)) (m13_4) (em13_4) (y8_0_6) (((((((hS_c186 0 6 rfl).trans (hS_c119 0 6 rfl)).trans (hS_c88 0 6 rfl)).trans (hS_c66 0 6 rfl)).trans (hS_13 0 6 rfl)).trans ((eF8 0 6).trans ey8_0_6))) (y13_2_1) ((((((hS_c186 2 1 rfl).trans (hS_c119 2 1 rfl)).trans (hS_c88 2 1 rfl)).trans (hS_c66 2 1 rfl)).trans (ey13_2_1))) (show inr (x13_4) from j13_0) (show inr (z20) from gz20) (show inr (tc119_0) from jc119_0) (show 0 ≤ (x13_4) ∧ 0 ≤ (tc119_0) ∧ (x13_4) + 4 + (tc119_0) ≤ (n3) ∧ (n3) ≤ 65536 from q_3059 b21 h1 j13_4 j13_7 jc119_1) (show 0 ≤ (y13_2_1) ∧ (y13_2_1) ≤ (m13_4) ∧ (m13_4) ≤ 65536 from j13_5) (show 0 ≤ (y8_0_6) ∧ (y8_0_6) ≤ 65536 ∧ (y13_2_1) ≤ (y8_0_6) from q_3021 h3 j13_6 pz8_0) (fun z25 σ25 D25ₚ N25ₚ F25ₚ A25ₚ c25 s25 Hₚ Oₚ hD25 hN25 hS25 hA25 pm25_3 m25_3 em25_3 y25_2_1 ey25_2_1 pz25_0 pz25_1 pz25_2 pz25_3 => ⟨rfl, ?_⟩))
                    refine v_backMc (c := c_13) (s := s_13) H oz_D6cls_38 oz_D6cls_44 Hₚ Oₚ hD25 oz_D6cls_39 (fun D25 N25 F25 A25 H Oₚ eD25 eN25 eF25 eA25 => ?_)
                    have O := OUT_trans O Oₚ
                    -- Tags.unpackChunk
                    have cF25 : SF oz_D6clsl_13 F F25 := SF_trans (cF_c186) (SF_gluc (ι := oz_D6clsl_14) oz_D6cls_44 hS25 eF25 (by decide +kernel)) (any_sub (lₚ := [(0, 7), (0, 8), (2, 0), (2, 1), (2, 2)]) (by decide +kernel))
                    have mF25 := SFm_of cF25 oz_D6cls_42
                    have cA25 : SA oz_D6clsl_6 A A25 := SA_trans (cA_c186) (SA_gluc (ι := oz_D6clsl_14) oz_D6cls_44 hA25 eA25 (by decide +kernel)) (any_subA (lₚ := [4]) (by decide +kernel))
                    have mA25 := SAm_of cA25 oz_D6cls_43
                    have cD25 : SD oz_D6clsl_6 D D25 := SD_trans (cD_13) (SD_gluc (ι := oz_D6clsl_14) oz_D6cls_44 hD25 eD25 (by decide +kernel)) (any_subA (lₚ := [4]) (by decide +kernel))
                    have mD25 := SDm_of cD25 oz_D6cls_43
                    have cN25 : SD oz_D6clsl_6 N N25 := SD_trans (cN_13) (SD_gluc (ι := oz_D6clsl_14) oz_D6cls_44 hN25 eN25 (by decide +kernel)) (any_subA (lₚ := [4]) (by decide +kernel))
                    have mN25 := SDm_of cN25 oz_D6cls_43
                    have pf25_0_3 : F25 0 3 = (D25 3 : Int) := ((show F25 0 3 = F_c186 0 3 from (eF25 0 3).trans (hS25 0 3 rfl))).trans (((((((hS_c186 0 3 rfl).trans (hS_c119 0 3 rfl)).trans (hS_c88 0 3 rfl)).trans (hS_c66 0 3 rfl))).trans (pf_13_0_3)).trans (congrArg (fun q : Nat => (q : Int)) ((show D25 3 = D_13 3 from (eD25 3).trans (hD25 1 rfl))).symm))
                    have pf25_0_5 : F25 0 5 = (D25 2 : Int) := ((show F25 0 5 = F_c186 0 5 from (eF25 0 5).trans (hS25 0 5 rfl))).trans (((((((hS_c186 0 5 rfl).trans (hS_c119 0 5 rfl)).trans (hS_c88 0 5 rfl)).trans (hS_c66 0 5 rfl))).trans (pf_13_0_5)).trans (congrArg (fun q : Nat => (q : Int)) ((show D25 2 = D_13 2 from (eD25 2).trans (hD25 2 rfl))).symm))
                    have pf25_2_0 : F25 2 0 = (D25 4 : Int) := (eF25 2 0).trans (pm25_3.trans (congrArg (fun q : Nat => (q : Int)) (eD25 4).symm))
                    have r26 : (0 : Int) ≤ m25_3 ∧ m25_3 ≤ 1000000 := nleE (H.nle 4 (ltn len_V210_Row_Row_oz_D6cls rfl)) (show (N25 4 : Int) = m25_3 from (congrArg (fun q : Nat => (q : Int)) (eN25 4)).trans em25_3)
                    have r27 : (-2147483648 : Int) ≤ y25_2_1 ∧ y25_2_1 ≤ 2147483647 := rngE (show (-2147483648 : Int) ≤ F25 2 1 ∧ F25 2 1 ≤ 2147483647 from H.krg 2 1 (ltn len_V210_Row_Row_oz_D6cls rfl)) (show F25 2 1 = y25_2_1 from ((eF25 2 1).trans ey25_2_1))
                    refine Ew_of (pcₚ := 204) (fun _ => x_istore rfl) ?_
                    refine Ew_of (pcₚ := 206) (fun _ => x_iload rfl rk_s) ?_
                    refine w_ifeq (t := 212) rfl rfl (show inr (z25) from pz25_0) (fun b28 => ?_) (fun b28 => ?_)
                    · exact hc212  _ _ _ _ _ _ _ _  ((rk_o (lc186_0) rfl rfl).trans (congrArg (fun q : Nat => some (Value.ref q)) (((show D25 0 = D_13 0 from (eD25 0).trans (hD25 0 rfl)))).symm)) (rk_o (lc186_4) rfl rfl) (rk_o (lc186_5) rfl rfl) (rk_o (lc186_7) rfl rfl) H O (SD_trans (SD_refl) (SD_gluc (ι := oz_D6clsl_14) oz_D6cls_44 hD25 eD25 (by decide +kernel)) (any_subA (lₚ := [4]) (by decide +kernel))) (SD_trans (SD_refl) (SD_gluc (ι := oz_D6clsl_14) oz_D6cls_44 hN25 eN25 (by decide +kernel)) (any_subA (lₚ := [4]) (by decide +kernel))) (SF_trans (SF_refl) (SF_gluc (ι := oz_D6clsl_14) oz_D6cls_44 hS25 eF25 (by decide +kernel)) (any_sub (lₚ := [(0, 7), (0, 8), (2, 0), (2, 1), (2, 2)]) (by decide +kernel))) (SA_trans (SA_refl) (SA_gluc (ι := oz_D6clsl_14) oz_D6cls_44 hA25 eA25 (by decide +kernel)) (any_subA (lₚ := [4]) (by decide +kernel))) (pf25_2_0) (m25_3) ((congrArg (fun q : Nat => (q : Int)) (eN25 4)).trans em25_3) (y25_2_1) (((eF25 2 1).trans ey25_2_1))  (show 0 ≤ (x13_4) ∧ (x13_4) ≤ (y8_0_4) from j13_4) (show 0 ≤ (y25_2_1) ∧ (y25_2_1) ≤ (m25_3) ∧ (m25_3) ≤ 65536 from pz25_2) (show (y25_2_1) ≤ (a3) from q_3060 pz25_3 pz8_0) (show 0 ≤ (y8_0_4) ∧ (y8_0_4) ≤ (n3) from j13_7)
                    · refine Ew_of (pcₚ := 211) (fun _ => x_iload rfl rk_s) ?_
                      exact w_ireturn rfl (k (z25) _ _ _ _ _ _ _ H O (cD25) (cN25) (cF25) (cA25) (pf25_2_0) (m25_3) ((congrArg (fun q : Nat => (q : Int)) (eN25 4)).trans em25_3) (y25_2_1) (((eF25 2 1).trans ey25_2_1)) (show inr (z25) from pz25_0) (show 0 ≤ (z25) ∧ (z25) ≤ 12 from pz25_1) (show 0 ≤ (y25_2_1) ∧ (y25_2_1) ≤ (m25_3) ∧ (m25_3) ≤ 65536 from pz25_2))
                refine Ew_of (pcₚ := 148) (fun _ => x_iload rfl (rk_o (lc119_6) rfl rfl)) ?_
                refine Ew_of (pcₚ := 151) (fun _ => x_sipush (z := 255) rfl (by decide)) ?_
                refine w_icmpne (t := 186) rfl rfl (show inr (z20) from gz20) (show inr (255) from q_36) (fun b29 => ?_) (fun b29 => ?_)
                · exact hc186  _ _ _ _  (rk_o (lc119_0) rfl rfl) (rk_o (lc119_4) rfl rfl) (rk_o (lc119_5) rfl rfl) (rk_o (lc119_6) rfl rfl) (rk_s) H O (SF_refl) (SA_refl)
                · refine Ew_of (pcₚ := 156) (fun _ => x_iload rfl rk_s) ?_
                  refine Ew_of (pcₚ := 158) (fun _ => x_bipush (z := 6) rfl (by decide)) ?_
                  refine w_icmpne (t := 177) rfl rfl (show inr (tc119_0) from jc119_0) (show inr (6) from q_545) (fun b30 => ?_) (fun b30 => ?_)
                  · refine Ew_of (pcₚ := 178) (fun _ => x_aload_n rfl (rk_o (lc119_0) rfl rfl)) ?_
                    refine Ew_of (pcₚ := 180) (fun _ => x_bipush (z := 8) rfl (by decide)) ?_
                    refine Ew_of (pcₚ := 182) (fun _ => x_iload rfl (rk_o (lc119_4) rfl rfl)) ?_
                    have r31 : (-2147483648 : Int) ≤ F_13 0 8 ∧ F_13 0 8 ≤ 2147483647 := rngE (show (-2147483648 : Int) ≤ F_c119 0 8 ∧ F_c119 0 8 ≤ 2147483647 from H.krg 0 8 (ltn len_V210_Row_Row_oz_D6cls rfl)) (show F_c119 0 8 = F_13 0 8 from (((hS_c119 0 8 rfl).trans (hS_c88 0 8 rfl)).trans (hS_c66 0 8 rfl)))
                    refine v_inv H (o := 0) rfl rfl rfl rfl rfl rfl (by rfl) (C203 (D := puc 0 D_13) (N := puc 0 N_13) (HW_subc H oz_D6cls_37 oz_D6cls_29) (F_13 0 8) ((((hS_c119 0 8 rfl).trans (hS_c88 0 8 rfl)).trans (hS_c66 0 8 rfl))) (show inr (8) from q_96) (show inr (x13_4) from j13_0) (fun z32 σ32 F32ₚ A32ₚ Hₚ Oₚ hS32 hA32 y32_0_8 ey32_0_8 pz32_0 pz32_1 pz32_2 => ⟨rfl, ?_⟩))
                    refine v_backc (c := c_13) (s := s_13) H oz_D6cls_37 oz_D6cls_29 Hₚ Oₚ (fun F32 A32 H Oₚ eF32 eA32 => ?_)
                    have O := OUT_trans O Oₚ
                    -- Tags.fail
                    have cF32 : SF oz_D6clsl_13 F F32 := SF_trans (cF_c119) (SF_gluc (ι := oz_D6clsl_8) oz_D6cls_29 hS32 eF32 (by decide +kernel)) (any_sub (lₚ := [(0, 8)]) (by decide +kernel))
                    have mF32 := SFm_of cF32 oz_D6cls_42
                    have cA32 : SA oz_D6clsl_6 A A32 := SA_trans (cA_c119) (SA_gluc (ι := oz_D6clsl_8) oz_D6cls_29 hA32 eA32 (by decide +kernel)) (any_subA (lₚ := []) (by decide +kernel))
                    have mA32 := SAm_of cA32 oz_D6cls_43
                    have r33 : (-2147483648 : Int) ≤ y32_0_8 ∧ y32_0_8 ≤ 2147483647 := rngE (show (-2147483648 : Int) ≤ F32 0 8 ∧ F32 0 8 ≤ 2147483647 from H.krg 0 8 (ltn len_V210_Row_Row_oz_D6cls rfl)) (show F32 0 8 = y32_0_8 from ((eF32 0 8).trans ey32_0_8))
                    exact w_ireturn rfl (k (z32) _ _ _ _ _ _ _ H O (cD_13) (cN_13) (cF32) (cA32) (((((((show F32 2 0 = F_c119 2 0 from (eF32 2 0))).trans (hS_c119 2 0 rfl)).trans (hS_c88 2 0 rfl)).trans (hS_c66 2 0 rfl))).trans (pm13_4)) (m13_4) (em13_4) (y13_2_1) (((((((show F32 2 1 = F_c119 2 1 from (eF32 2 1))).trans (hS_c119 2 1 rfl)).trans (hS_c88 2 1 rfl)).trans (hS_c66 2 1 rfl)).trans (ey13_2_1))) (show inr (z32) from pz32_0) (show 0 ≤ (z32) ∧ (z32) ≤ 12 from q_3061 pz32_1) (show 0 ≤ (y13_2_1) ∧ (y13_2_1) ≤ (m13_4) ∧ (m13_4) ≤ 65536 from j13_5))
                  · refine Ew_of (pcₚ := 162) (fun _ => x_aload_n rfl (rk_o (lc119_0) rfl rfl)) ?_
                    refine v_g H (o := 0) (v := .ref (D_13 3)) rfl rfl rfl rfl rfl (vrf (((((hS_c119 0 3 rfl).trans (hS_c88 0 3 rfl)).trans (hS_c66 0 3 rfl))).trans (pf_13_0_3))) ?_
                    refine Ew_of (pcₚ := 167) (fun _ => x_iload rfl (rk_o (lc119_4) rfl rfl)) ?_
                    refine Ew_of (pcₚ := 168) (fun _ => x_aload_n rfl (rk_o (lc119_0) rfl rfl)) ?_
                    refine v_g H (o := 0) (v := I (y8_0_4)) rfl rfl rfl rfl rfl (congrArg (fun z : Int => I z) ((((((hS_c119 0 4 rfl).trans (hS_c88 0 4 rfl)).trans (hS_c66 0 4 rfl)).trans (hS_13 0 4 rfl)).trans ((eF8 0 4).trans ey8_0_4)) : F_c119 0 4 = y8_0_4)) ?_
                    refine w_stat24 rfl rfl (by rfl) (C192_Br (D := puc 3 D_13) (N := puc 3 N_13) (HW_subc H oz_D6cls_40 oz_D6cls_30) (STC_out HT HE O) (n3) ((congrArg (fun q : Nat => (q : Int)) (mN_13 3 rfl)).trans (en3)) (show inr (x13_4) from j13_0) (show inr (y8_0_4) from q_275 j13_7 r9) (show 0 ≤ (x13_4) ∧ 0 ≤ (y8_0_4) ∧ (y8_0_4) ≤ (n3) ∧ (n3) ≤ 65536 ∧ (x13_4) ≤ 200000 from q_3062 b18 h1 j13_4 j13_7 r3) (fun z34 σ34 F34ₚ A34ₚ Hₚ Oₚ hS34 hA34 pz34_0 => ⟨rretB rfl pz34_0, ?_⟩))
                    refine v_backc (c := c_13) (s := s_13) H oz_D6cls_40 oz_D6cls_30 Hₚ Oₚ (fun F34 A34 H Oₚ eF34 eA34 => ?_)
                    have O := OUT_trans O Oₚ
                    -- Tags.isMark
                    have cF34 : SF oz_D6clsl_13 F F34 := SF_trans (cF_c119) (SF_gluc (ι := oz_D6clsl_3) oz_D6cls_30 hS34 eF34 (by decide +kernel)) (any_sub (lₚ := []) (by decide +kernel))
                    have mF34 := SFm_of cF34 oz_D6cls_42
                    have cA34 : SA oz_D6clsl_6 A A34 := SA_trans (cA_c119) (SA_gluc (ι := oz_D6clsl_3) oz_D6cls_30 hA34 eA34 (by decide +kernel)) (any_subA (lₚ := []) (by decide +kernel))
                    have mA34 := SAm_of cA34 oz_D6cls_43
                    refine w_ifne (t := 186) rfl rfl (show inr (z34) from q_15 pz34_0) (fun b35 => ?_) (fun b35 => ?_)
                    · exact hc186  _ _ _ _  (rk_o (lc119_0) rfl rfl) (rk_o (lc119_4) rfl rfl) (rk_o (lc119_5) rfl rfl) (rk_o (lc119_6) rfl rfl) (rk_s) H O (SF_trans (SF_refl) (SF_gluc (ι := oz_D6clsl_3) oz_D6cls_30 hS34 eF34 (by decide +kernel)) (any_sub (lₚ := []) (by decide +kernel))) (SA_trans (SA_refl) (SA_gluc (ι := oz_D6clsl_3) oz_D6cls_30 hA34 eA34 (by decide +kernel)) (any_subA (lₚ := []) (by decide +kernel)))
                    · refine Ew_of (pcₚ := 178) (fun _ => x_aload_n rfl (rk_o (lc119_0) rfl rfl)) ?_
                      refine Ew_of (pcₚ := 180) (fun _ => x_bipush (z := 8) rfl (by decide)) ?_
                      refine Ew_of (pcₚ := 182) (fun _ => x_iload rfl (rk_o (lc119_4) rfl rfl)) ?_
                      have r36 : (-2147483648 : Int) ≤ F_13 0 8 ∧ F_13 0 8 ≤ 2147483647 := rngE (show (-2147483648 : Int) ≤ F34 0 8 ∧ F34 0 8 ≤ 2147483647 from H.krg 0 8 (ltn len_V210_Row_Row_oz_D6cls rfl)) (show F34 0 8 = F_13 0 8 from (((((show F34 0 8 = F_c119 0 8 from (eF34 0 8))).trans (hS_c119 0 8 rfl)).trans (hS_c88 0 8 rfl)).trans (hS_c66 0 8 rfl)))
                      refine v_inv H (o := 0) rfl rfl rfl rfl rfl rfl (by rfl) (C203 (D := puc 0 D_13) (N := puc 0 N_13) (HW_subc H oz_D6cls_37 oz_D6cls_29) (F_13 0 8) ((((((show F34 0 8 = F_c119 0 8 from (eF34 0 8))).trans (hS_c119 0 8 rfl)).trans (hS_c88 0 8 rfl)).trans (hS_c66 0 8 rfl))) (show inr (8) from q_96) (show inr (x13_4) from j13_0) (fun z37 σ37 F37ₚ A37ₚ Hₚ Oₚ hS37 hA37 y37_0_8 ey37_0_8 pz37_0 pz37_1 pz37_2 => ⟨rfl, ?_⟩))
                      refine v_backc (c := c_13) (s := s_13) H oz_D6cls_37 oz_D6cls_29 Hₚ Oₚ (fun F37 A37 H Oₚ eF37 eA37 => ?_)
                      have O := OUT_trans O Oₚ
                      -- Tags.fail
                      have cF37 : SF oz_D6clsl_13 F F37 := SF_trans (cF34) (SF_gluc (ι := oz_D6clsl_8) oz_D6cls_29 hS37 eF37 (by decide +kernel)) (any_sub (lₚ := [(0, 8)]) (by decide +kernel))
                      have mF37 := SFm_of cF37 oz_D6cls_42
                      have cA37 : SA oz_D6clsl_6 A A37 := SA_trans (cA34) (SA_gluc (ι := oz_D6clsl_8) oz_D6cls_29 hA37 eA37 (by decide +kernel)) (any_subA (lₚ := []) (by decide +kernel))
                      have mA37 := SAm_of cA37 oz_D6cls_43
                      have r38 : (-2147483648 : Int) ≤ y37_0_8 ∧ y37_0_8 ≤ 2147483647 := rngE (show (-2147483648 : Int) ≤ F37 0 8 ∧ F37 0 8 ≤ 2147483647 from H.krg 0 8 (ltn len_V210_Row_Row_oz_D6cls rfl)) (show F37 0 8 = y37_0_8 from ((eF37 0 8).trans ey37_0_8))
                      exact w_ireturn rfl (k (z37) _ _ _ _ _ _ _ H O (cD_13) (cN_13) (cF37) (cA37) ((((((((show F37 2 0 = F34 2 0 from (eF37 2 0))).trans ((show F34 2 0 = F_c119 2 0 from (eF34 2 0)))).trans (hS_c119 2 0 rfl)).trans (hS_c88 2 0 rfl)).trans (hS_c66 2 0 rfl))).trans (pm13_4)) (m13_4) (em13_4) (y13_2_1) ((((((((show F37 2 1 = F34 2 1 from (eF37 2 1))).trans ((show F34 2 1 = F_c119 2 1 from (eF34 2 1)))).trans (hS_c119 2 1 rfl)).trans (hS_c88 2 1 rfl)).trans (hS_c66 2 1 rfl)).trans (ey13_2_1))) (show inr (z37) from pz37_0) (show 0 ≤ (z37) ∧ (z37) ≤ 12 from q_3061 pz37_1) (show 0 ≤ (y13_2_1) ∧ (y13_2_1) ≤ (m13_4) ∧ (m13_4) ≤ 65536 from j13_5))
              · refine Ew_of (pcₚ := 136) (fun _ => x_aload_n rfl (rk_o (lc119_0) rfl rfl)) ?_
                refine Ew_of (pcₚ := 138) (fun _ => x_bipush (z := 7) rfl (by decide)) ?_
                refine Ew_of (pcₚ := 139) (fun _ => x_aload_n rfl (rk_o (lc119_0) rfl rfl)) ?_
                refine v_g H (o := 0) (v := I (y8_0_4)) rfl rfl rfl rfl rfl (congrArg (fun z : Int => I z) ((((((hS_c119 0 4 rfl).trans (hS_c88 0 4 rfl)).trans (hS_c66 0 4 rfl)).trans (hS_13 0 4 rfl)).trans ((eF8 0 4).trans ey8_0_4)) : F_c119 0 4 = y8_0_4)) ?_
                have r39 : (-2147483648 : Int) ≤ F_13 0 8 ∧ F_13 0 8 ≤ 2147483647 := rngE (show (-2147483648 : Int) ≤ F_c119 0 8 ∧ F_c119 0 8 ≤ 2147483647 from H.krg 0 8 (ltn len_V210_Row_Row_oz_D6cls rfl)) (show F_c119 0 8 = F_13 0 8 from (((hS_c119 0 8 rfl).trans (hS_c88 0 8 rfl)).trans (hS_c66 0 8 rfl)))
                refine v_inv H (o := 0) rfl rfl rfl rfl rfl rfl (by rfl) (C203 (D := puc 0 D_13) (N := puc 0 N_13) (HW_subc H oz_D6cls_37 oz_D6cls_29) (F_13 0 8) ((((hS_c119 0 8 rfl).trans (hS_c88 0 8 rfl)).trans (hS_c66 0 8 rfl))) (show inr (7) from q_355) (show inr (y8_0_4) from q_275 j13_7 r9) (fun z40 σ40 F40ₚ A40ₚ Hₚ Oₚ hS40 hA40 y40_0_8 ey40_0_8 pz40_0 pz40_1 pz40_2 => ⟨rfl, ?_⟩))
                refine v_backc (c := c_13) (s := s_13) H oz_D6cls_37 oz_D6cls_29 Hₚ Oₚ (fun F40 A40 H Oₚ eF40 eA40 => ?_)
                have O := OUT_trans O Oₚ
                -- Tags.fail
                have cF40 : SF oz_D6clsl_13 F F40 := SF_trans (cF_c119) (SF_gluc (ι := oz_D6clsl_8) oz_D6cls_29 hS40 eF40 (by decide +kernel)) (any_sub (lₚ := [(0, 8)]) (by decide +kernel))
                have mF40 := SFm_of cF40 oz_D6cls_42
                have cA40 : SA oz_D6clsl_6 A A40 := SA_trans (cA_c119) (SA_gluc (ι := oz_D6clsl_8) oz_D6cls_29 hA40 eA40 (by decide +kernel)) (any_subA (lₚ := []) (by decide +kernel))
                have mA40 := SAm_of cA40 oz_D6cls_43
                have r41 : (-2147483648 : Int) ≤ y40_0_8 ∧ y40_0_8 ≤ 2147483647 := rngE (show (-2147483648 : Int) ≤ F40 0 8 ∧ F40 0 8 ≤ 2147483647 from H.krg 0 8 (ltn len_V210_Row_Row_oz_D6cls rfl)) (show F40 0 8 = y40_0_8 from ((eF40 0 8).trans ey40_0_8))
                exact w_ireturn rfl (k (z40) _ _ _ _ _ _ _ H O (cD_13) (cN_13) (cF40) (cA40) (((((((show F40 2 0 = F_c119 2 0 from (eF40 2 0))).trans (hS_c119 2 0 rfl)).trans (hS_c88 2 0 rfl)).trans (hS_c66 2 0 rfl))).trans (pm13_4)) (m13_4) (em13_4) (y13_2_1) (((((((show F40 2 1 = F_c119 2 1 from (eF40 2 1))).trans (hS_c119 2 1 rfl)).trans (hS_c88 2 1 rfl)).trans (hS_c66 2 1 rfl)).trans (ey13_2_1))) (show inr (z40) from pz40_0) (show 0 ≤ (z40) ∧ (z40) ≤ 12 from q_3063 pz40_1) (show 0 ≤ (y13_2_1) ∧ (y13_2_1) ≤ (m13_4) ∧ (m13_4) ≤ 65536 from j13_5))
            refine Ew_of (pcₚ := 89) (fun _ => x_aload_n rfl lc88_0) ?_
            refine v_g H (o := 0) (v := I (y8_0_4)) rfl rfl rfl rfl rfl (congrArg (fun z : Int => I z) (((((hS_c88 0 4 rfl).trans (hS_c66 0 4 rfl)).trans (hS_13 0 4 rfl)).trans ((eF8 0 4).trans ey8_0_4)) : F_c88 0 4 = y8_0_4)) ?_
            refine Ew_of (pcₚ := 94) (fun _ => x_iload rfl lc88_4) ?_
            refine w_isub rfl ?_
            refine Ew_of (pcₚ := 96) (fun _ => x_iconst rfl) ?_
            refine w_icmpge (t := 106) rfl rfl (show inr ((y8_0_4 - x13_4)) from q_3008 b18 j13_4 r9) (show inr (4) from q_2) (fun b42 => ?_) (fun b42 => ?_)
            · refine Ew_of (pcₚ := 107) (fun _ => x_aload_n rfl lc88_0) ?_
              refine v_g H (o := 0) (v := .ref (D_13 3)) rfl rfl rfl rfl rfl (vrf ((((hS_c88 0 3 rfl).trans (hS_c66 0 3 rfl))).trans (pf_13_0_3))) ?_
              refine Ew_of (pcₚ := 112) (fun _ => x_iload rfl lc88_4) ?_
              refine Ew_of (pcₚ := 113) (fun _ => x_iconst rfl) ?_
              refine w_iadd rfl ?_
              refine Ew_of (pcₚ := 115) (fun _ => x_iconst rfl) ?_
              refine w_stat25 rfl rfl (by rfl) (C42_Br (D := puc 3 D_13) (N := puc 3 N_13) (HW_subc H oz_D6cls_41 oz_D6cls_30) (n3) ((congrArg (fun q : Nat => (q : Int)) (mN_13 3 rfl)).trans (en3)) (show inr ((x13_4 + 1)) from q_3066 b42 j13_4 j13_7 r3) (show inr (3) from q_66) (show (3) ≤ 0 ∨ 0 ≤ ((x13_4 + 1)) ∧ ((x13_4 + 1)) + (3) ≤ (n3) from q_3065 b42 j13_4 j13_7) (show 0 ≤ (3) from q_3064) (fun z43 σ43 F43ₚ A43ₚ Hₚ Oₚ hS43 hA43 pz43_0 pz43_1 => ⟨rfl, ?_⟩))
              refine v_backc (c := c_13) (s := s_13) H oz_D6cls_41 oz_D6cls_30 Hₚ Oₚ (fun F43 A43 H Oₚ eF43 eA43 => ?_)
              have O := OUT_trans O Oₚ
              -- PackHouse.number
              have cF43 : SF oz_D6clsl_13 F F43 := SF_trans (cF_c88) (SF_gluc (ι := oz_D6clsl_3) oz_D6cls_30 hS43 eF43 (by decide +kernel)) (any_sub (lₚ := []) (by decide +kernel))
              have mF43 := SFm_of cF43 oz_D6cls_42
              have cA43 : SA oz_D6clsl_6 A A43 := SA_trans (cA_c88) (SA_gluc (ι := oz_D6clsl_3) oz_D6cls_30 hA43 eA43 (by decide +kernel)) (any_subA (lₚ := []) (by decide +kernel))
              have mA43 := SAm_of cA43 oz_D6cls_43
              have hnb := nb3 pz43_1
              refine w_l2i rfl ?_
              exact hc119 (z43) _ _ _ _  (lc88_0) (lc88_4) (lc88_5) (lc88_6) H O (SF_trans (SF_refl) (SF_gluc (ι := oz_D6clsl_3) oz_D6cls_30 hS43 eF43 (by decide +kernel)) (any_sub (lₚ := []) (by decide +kernel))) (SA_trans (SA_refl) (SA_gluc (ι := oz_D6clsl_3) oz_D6cls_30 hA43 eA43 (by decide +kernel)) (any_subA (lₚ := []) (by decide +kernel)))     (show inr (z43) by omega) (show 0 ≤ (z43) ∧ (z43) ≤ 16777215 by omega)
            · refine Ew_of (pcₚ := 100) (fun _ => x_aload_n rfl lc88_0) ?_
              refine v_g H (o := 0) (v := I (y8_0_4)) rfl rfl rfl rfl rfl (congrArg (fun z : Int => I z) (((((hS_c88 0 4 rfl).trans (hS_c66 0 4 rfl)).trans (hS_13 0 4 rfl)).trans ((eF8 0 4).trans ey8_0_4)) : F_c88 0 4 = y8_0_4)) ?_
              refine Ew_of (pcₚ := 119) (fun _ => x_goto rfl rfl) ?_
              exact hc119 (y8_0_4) _ _ _ _  (lc88_0) (lc88_4) (lc88_5) (lc88_6) H O (SF_refl) (SA_refl)     (show inr (y8_0_4) from q_275 j13_7 r9) (show 0 ≤ (y8_0_4) ∧ (y8_0_4) ≤ 16777215 from q_3067 j13_7 r3)
          refine w_icmplt (t := 88) rfl rfl (show inr (z20) from gz20) (show inr (2) from q_55) (fun b44 => ?_) (fun b44 => ?_)
          · exact hc88  _ _ _ _  (lc66_0) (lc66_4) (lc66_5) (lc66_6) H O (SF_refl) (SA_refl)     (show ((z20) < (2)) ∨ ((z20) ≥ (2) ∧ (z20) > (127)) from q_868 b44)
          · refine Ew_of (pcₚ := 74) (fun _ => x_iload rfl lc66_6) ?_
            refine Ew_of (pcₚ := 76) (fun _ => x_bipush (z := 127) rfl (by decide)) ?_
            refine w_icmpgt (t := 88) rfl rfl (show inr (z20) from gz20) (show inr (127) from q_869) (fun b45 => ?_) (fun b45 => ?_)
            · exact hc88  _ _ _ _  (lc66_0) (lc66_4) (lc66_5) (lc66_6) H O (SF_refl) (SA_refl)     (show ((z20) < (2)) ∨ ((z20) ≥ (2) ∧ (z20) > (127)) from q_870 b45)
            · refine Ew_of (pcₚ := 80) (fun _ => x_aload_n rfl lc66_0) ?_
              refine Ew_of (pcₚ := 82) (fun _ => x_bipush (z := 9) rfl (by decide)) ?_
              refine Ew_of (pcₚ := 84) (fun _ => x_iload rfl lc66_4) ?_
              have r46 : (-2147483648 : Int) ≤ F_13 0 8 ∧ F_13 0 8 ≤ 2147483647 := rngE (show (-2147483648 : Int) ≤ F_c66 0 8 ∧ F_c66 0 8 ≤ 2147483647 from H.krg 0 8 (ltn len_V210_Row_Row_oz_D6cls rfl)) (show F_c66 0 8 = F_13 0 8 from (hS_c66 0 8 rfl))
              refine v_inv H (o := 0) rfl rfl rfl rfl rfl rfl (by rfl) (C203 (D := puc 0 D_13) (N := puc 0 N_13) (HW_subc H oz_D6cls_37 oz_D6cls_29) (F_13 0 8) ((hS_c66 0 8 rfl)) (show inr (9) from q_19) (show inr (x13_4) from j13_0) (fun z47 σ47 F47ₚ A47ₚ Hₚ Oₚ hS47 hA47 y47_0_8 ey47_0_8 pz47_0 pz47_1 pz47_2 => ⟨rfl, ?_⟩))
              refine v_backc (c := c_13) (s := s_13) H oz_D6cls_37 oz_D6cls_29 Hₚ Oₚ (fun F47 A47 H Oₚ eF47 eA47 => ?_)
              have O := OUT_trans O Oₚ
              -- Tags.fail
              have cF47 : SF oz_D6clsl_13 F F47 := SF_trans (cF_c66) (SF_gluc (ι := oz_D6clsl_8) oz_D6cls_29 hS47 eF47 (by decide +kernel)) (any_sub (lₚ := [(0, 8)]) (by decide +kernel))
              have mF47 := SFm_of cF47 oz_D6cls_42
              have cA47 : SA oz_D6clsl_6 A A47 := SA_trans (cA_c66) (SA_gluc (ι := oz_D6clsl_8) oz_D6cls_29 hA47 eA47 (by decide +kernel)) (any_subA (lₚ := []) (by decide +kernel))
              have mA47 := SAm_of cA47 oz_D6cls_43
              have r48 : (-2147483648 : Int) ≤ y47_0_8 ∧ y47_0_8 ≤ 2147483647 := rngE (show (-2147483648 : Int) ≤ F47 0 8 ∧ F47 0 8 ≤ 2147483647 from H.krg 0 8 (ltn len_V210_Row_Row_oz_D6cls rfl)) (show F47 0 8 = y47_0_8 from ((eF47 0 8).trans ey47_0_8))
              exact w_ireturn rfl (k (z47) _ _ _ _ _ _ _ H O (cD_13) (cN_13) (cF47) (cA47) (((((show F47 2 0 = F_c66 2 0 from (eF47 2 0))).trans (hS_c66 2 0 rfl))).trans (pm13_4)) (m13_4) (em13_4) (y13_2_1) (((((show F47 2 1 = F_c66 2 1 from (eF47 2 1))).trans (hS_c66 2 1 rfl)).trans (ey13_2_1))) (show inr (z47) from pz47_0) (show 0 ≤ (z47) ∧ (z47) ≤ 12 from q_3068 pz47_1) (show 0 ≤ (y13_2_1) ∧ (y13_2_1) ≤ (m13_4) ∧ (m13_4) ≤ 65536 from j13_5))
        refine w_ifne (t := 66) rfl rfl (show inr (x13_4) from j13_0) (fun b49 => ?_) (fun b49 => ?_)
        · exact hc66  _ _ _ _  (rk_o (l13_0) rfl rfl) (rk_o (l13_4) rfl rfl) (rk_o (l13_5) rfl rfl) (rk_s) H O (SF_refl) (SA_refl)     (show ((x13_4) ≠ (0)) ∨ ((x13_4) = (0) ∧ (z20) = (255)) from q_871 b49)
        · refine Ew_of (pcₚ := 51) (fun _ => x_iload rfl rk_s) ?_
          refine Ew_of (pcₚ := 54) (fun _ => x_sipush (z := 255) rfl (by decide)) ?_
          refine w_icmpeq (t := 66) rfl rfl (show inr (z20) from gz20) (show inr (255) from q_36) (fun b50 => ?_) (fun b50 => ?_)
          · exact hc66  _ _ _ _  (rk_o (l13_0) rfl rfl) (rk_o (l13_4) rfl rfl) (rk_o (l13_5) rfl rfl) (rk_s) H O (SF_refl) (SA_refl)     (show ((x13_4) ≠ (0)) ∨ ((x13_4) = (0) ∧ (z20) = (255)) from q_872 b49 b50)
          · refine Ew_of (pcₚ := 58) (fun _ => x_aload_n rfl (rk_o (l13_0) rfl rfl)) ?_
            refine Ew_of (pcₚ := 60) (fun _ => x_bipush (z := 8) rfl (by decide)) ?_
            refine Ew_of (pcₚ := 62) (fun _ => x_iload rfl (rk_o (l13_4) rfl rfl)) ?_
            have r51 : (-2147483648 : Int) ≤ F_13 0 8 ∧ F_13 0 8 ≤ 2147483647 := H.krg 0 8 (ltn len_V210_Row_Row_oz_D6cls rfl)
            refine v_inv H (o := 0) rfl rfl rfl rfl rfl rfl (by rfl) (C203 (D := puc 0 D_13) (N := puc 0 N_13) (HW_subc H oz_D6cls_37 oz_D6cls_29) (F_13 0 8) (rfl) (show inr (8) from q_96) (show inr (x13_4) from j13_0) (fun z52 σ52 F52ₚ A52ₚ Hₚ Oₚ hS52 hA52 y52_0_8 ey52_0_8 pz52_0 pz52_1 pz52_2 => ⟨rfl, ?_⟩))
            refine v_backc (c := c_13) (s := s_13) H oz_D6cls_37 oz_D6cls_29 Hₚ Oₚ (fun F52 A52 H Oₚ eF52 eA52 => ?_)
            have O := OUT_trans O Oₚ
            -- Tags.fail
            have cF52 : SF oz_D6clsl_13 F F52 := SF_trans (cF_13) (SF_gluc (ι := oz_D6clsl_8) oz_D6cls_29 hS52 eF52 (by decide +kernel)) (any_sub (lₚ := [(0, 8)]) (by decide +kernel))
            have mF52 := SFm_of cF52 oz_D6cls_42
            have cA52 : SA oz_D6clsl_6 A A52 := SA_trans (cA_13) (SA_gluc (ι := oz_D6clsl_8) oz_D6cls_29 hA52 eA52 (by decide +kernel)) (any_subA (lₚ := []) (by decide +kernel))
            have mA52 := SAm_of cA52 oz_D6cls_43
            have r53 : (-2147483648 : Int) ≤ y52_0_8 ∧ y52_0_8 ≤ 2147483647 := rngE (show (-2147483648 : Int) ≤ F52 0 8 ∧ F52 0 8 ≤ 2147483647 from H.krg 0 8 (ltn len_V210_Row_Row_oz_D6cls rfl)) (show F52 0 8 = y52_0_8 from ((eF52 0 8).trans ey52_0_8))
            exact w_ireturn rfl (k (z52) _ _ _ _ _ _ _ H O (cD_13) (cN_13) (cF52) (cA52) ((((show F52 2 0 = F_13 2 0 from (eF52 2 0)))).trans (pm13_4)) (m13_4) (em13_4) (y13_2_1) ((((show F52 2 1 = F_13 2 1 from (eF52 2 1))).trans (ey13_2_1))) (show inr (z52) from pz52_0) (show 0 ≤ (z52) ∧ (z52) ≤ 12 from q_3061 pz52_1) (show 0 ≤ (y13_2_1) ∧ (y13_2_1) ≤ (m13_4) ∧ (m13_4) ≤ 65536 from j13_5))
