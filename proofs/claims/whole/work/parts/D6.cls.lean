abbrev V219_Row : vV := [(0, 11, [(4, 0), (4, 0), (4, 0), (4, 0), (4, 0), (0, 0), (4, 0), (0, 0), (0, 0), (0, 0), (0, 0), (0, 0), (0, 0)]), (0, 7, [(4, 0), (0, 0), (1, 0), (0, 0), (0, 0)]), (1, 0, []), (1, 1, [])]
/-- Tokens.packHead: this, #1, #1.bytes, this.settings -/
theorem C219_Row {σE : rS} {D N : Nat → Nat} {F : hF} {A : hA} {d c s : Nat} {Q : wQ} (H : HW V219_Row σE D N F A) {a2 : Int} (pf2 : F 1 0 = (D 2 : Int)) (pf3 : F 0 0 = (D 3 : Int)) (n2 : Int) (en2 : (N 2 : Int) = n2) (n3 : Int) (en3 : (N 3 : Int) = n3) (u1_1 : Int) (eu1_1 : F 1 1 = u1_1) (h0 : inr (a2)) (h1 : 0 ≤ (u1_1) ∧ (u1_1) ≤ (n2) ∧ (n2) ≤ 65536) (h2 : (u1_1) ≤ 1000) (h3 : (n3) = 10) (k : ∀ (σ : rS) (D' N' : Nat → Nat) (F' : hF) (A' : hA) (c' s' : Nat), HW V219_Row σ D' N' F' A' → OUT (V219_Row).length D N σE c s D' N' σ c' s' → SD [2] D D' → SD [2] N N' → SF [(1, 0), (1, 1), (1, 2)] F F' → SA [2] A A' → F' 1 0 = (D' 2 : Int) → ∀ m2 : Int, (N' 2 : Int) = m2 → ∀ y1_1 : Int, F' 1 1 = y1_1 → (0 ≤ (y1_1) ∧ (y1_1) ≤ (m2) ∧ (m2) ≤ 65536) → Q none σ c' s') : Ew 219 (d + 3) 0 (rargs 0 [.ref (D 0), .ref (D 1), I a2]) [] σE c s Q := by
  have O := OUT_refl (n := (V219_Row).length) (D := D) (N := N) (σ := σE) (c := c) (s := s)
  have HE := H
  have r1 : (-2147483648 : Int) ≤ u1_1 ∧ u1_1 ≤ 2147483647 := by have h1 : (-2147483648 : Int) ≤ F 1 1 ∧ F 1 1 ≤ 2147483647 := H.krg 1 1 (by decide); rw [show F 1 1 = u1_1 from (eu1_1)] at h1; exact h1
  have r2 : (0 : Int) ≤ n2 ∧ n2 ≤ 1000000 := by have h1 := H.nle 2 (by decide); have h2 : (N 2 : Int) = n2 := en2; omega
  have r3 : (0 : Int) ≤ n3 ∧ n3 ≤ 1000000 := by have h1 := H.nle 3 (by decide); have h2 : (N 3 : Int) = n3 := en3; omega
  refine Ew_of (pc' := 1) (fun _ => x_aload_n rfl rfl) ?_
  refine Ew_of (pc' := 4) (fun _ => x_ldc2 (z := 407708164) rfl (by decide)) ?_
  refine Ew_of (pc' := 5) (fun _ => x_iconst rfl) ?_
  refine v_inv H (o := 1) rfl rfl rfl rfl rfl rfl (by rfl) (C160 (D := pul [1, 2] D) (N := pul [1, 2] N) (HW_sub H (VS_of (show vsub V219_Row V160 [1, 2] = true by decide +kernel))) (pf2) (n2) (en2) (u1_1) ((eu1_1)) (show inrJ (407708164) by omega) (show inr (4) by omega) (show 0 ≤ (u1_1) ∧ (u1_1) ≤ (n2) ∧ (n2) ≤ 65536 by omega) (fun σ4 D4' N4' F4' A4' c4 s4 H' O' hD4 hN4 hS4 hA4 pm4_1 m4_1 em4_1 y4_0_1 ey4_0_1 pz4_0 pz4_1 => ⟨rfl, ?_⟩))
  refine v_backM (c := c) (s := s) H (show vsub V219_Row V160 [1, 2] = true by decide +kernel) H' O' hD4 (show vmov V219_Row [1, 2] [1] = true by decide +kernel) (fun D4 N4 F4 A4 H O' eD4 eN4 eF4 eA4 => ?_)
  have O := OUT_trans O O'
  -- Row.addNumber
  have pf4_0_0 : F4 0 0 = (D4 3 : Int) := ((show F4 0 0 = F 0 0 from (eF4 0 0))).trans ((pf3).trans (congrArg (fun q : Nat => (q : Int)) ((show D4 3 = D 3 from (eD4 3))).symm))
  have pf4_1_0 : F4 1 0 = (D4 2 : Int) := (eF4 1 0).trans (pm4_1.trans (congrArg (fun q : Nat => (q : Int)) (eD4 2).symm))
  have r5 : (0 : Int) ≤ m4_1 ∧ m4_1 ≤ 1000000 := by have h1 := H.nle 2 (by decide); have h2 : (N4 2 : Int) = m4_1 := (congrArg (fun q : Nat => (q : Int)) (eN4 2)).trans em4_1; omega
  have r6 : (-2147483648 : Int) ≤ y4_0_1 ∧ y4_0_1 ≤ 2147483647 := by have h1 : (-2147483648 : Int) ≤ F4 1 1 ∧ F4 1 1 ≤ 2147483647 := H.krg 1 1 (by decide); rw [show F4 1 1 = y4_0_1 from ((eF4 1 1).trans ey4_0_1)] at h1; exact h1
  refine Ew_of (pc' := 9) (fun _ => x_aload_n rfl rfl) ?_
  refine Ew_of (pc' := 10) (fun _ => x_aload_n rfl rfl) ?_
  refine Ew_stk (show ([.ref (D 0), .ref (D 1)] : List Value) = [.ref (D4 0), .ref (D4 1)] by rw [show D4 0 = D 0 from ((show D4 0 = D 0 from (eD4 0))), show D4 1 = D 1 from ((show D4 1 = D 1 from (eD4 1).trans (hD4 0 rfl)))]) ?_
  have r7 : (-2147483648 : Int) ≤ F 0 8 ∧ F 0 8 ≤ 2147483647 := by have h1 : (-2147483648 : Int) ≤ F4 0 8 ∧ F4 0 8 ≤ 2147483647 := H.krg 0 8 (by decide); rw [show F4 0 8 = F 0 8 from ((show F4 0 8 = F 0 8 from (eF4 0 8)))] at h1; exact h1
  refine v_g H (o := 0) (v := I (F 0 8)) rfl rfl rfl rfl rfl (congrArg (fun z : Int => I z) (((show F4 0 8 = F 0 8 from (eF4 0 8))) : F4 0 8 = F 0 8)) ?_
  refine v_inv H (o := 1) rfl rfl rfl rfl rfl rfl (by rfl) (C159 (D := pul [1, 2] D4) (N := pul [1, 2] N4) (HW_sub H (VS_of (show vsub V219_Row V159 [1, 2] = true by decide +kernel))) (pf4_1_0) (m4_1) ((congrArg (fun q : Nat => (q : Int)) (eN4 2)).trans em4_1) (y4_0_1) (((eF4 1 1).trans ey4_0_1)) (show inr (F 0 8) by omega) (show 0 ≤ (y4_0_1) ∧ (y4_0_1) ≤ (m4_1) ∧ (m4_1) ≤ 65536 by omega) (fun σ8 D8' N8' F8' A8' c8 s8 H' O' hD8 hN8 hS8 hA8 pm8_1 m8_1 em8_1 y8_0_1 ey8_0_1 pz8_0 pz8_1 pz8_2 => ⟨rfl, ?_⟩))
  refine v_backM (c := (c + c4)) (s := (s + s4)) H (show vsub V219_Row V159 [1, 2] = true by decide +kernel) H' O' hD8 (show vmov V219_Row [1, 2] [1] = true by decide +kernel) (fun D8 N8 F8 A8 H O' eD8 eN8 eF8 eA8 => ?_)
  have O := OUT_trans O O'
  -- Row.add
  have pf8_0_0 : F8 0 0 = (D8 3 : Int) := ((show F8 0 0 = F4 0 0 from (eF8 0 0))).trans ((pf4_0_0).trans (congrArg (fun q : Nat => (q : Int)) ((show D8 3 = D4 3 from (eD8 3))).symm))
  have pf8_1_0 : F8 1 0 = (D8 2 : Int) := (eF8 1 0).trans (pm8_1.trans (congrArg (fun q : Nat => (q : Int)) (eD8 2).symm))
  have r9 : (0 : Int) ≤ m8_1 ∧ m8_1 ≤ 1000000 := by have h1 := H.nle 2 (by decide); have h2 : (N8 2 : Int) = m8_1 := (congrArg (fun q : Nat => (q : Int)) (eN8 2)).trans em8_1; omega
  have r10 : (-2147483648 : Int) ≤ y8_0_1 ∧ y8_0_1 ≤ 2147483647 := by have h1 : (-2147483648 : Int) ≤ F8 1 1 ∧ F8 1 1 ≤ 2147483647 := H.krg 1 1 (by decide); rw [show F8 1 1 = y8_0_1 from ((eF8 1 1).trans ey8_0_1)] at h1; exact h1
  refine Ew_of (pc' := 17) (fun _ => x_aload_n rfl rfl) ?_
  refine Ew_of (pc' := 18) (fun _ => x_aload_n rfl rfl) ?_
  refine Ew_stk (show ([.ref (D 0), .ref (D 1)] : List Value) = [.ref (D8 0), .ref (D8 1)] by rw [show D8 0 = D 0 from (((show D8 0 = D4 0 from (eD8 0))).trans ((show D4 0 = D 0 from (eD4 0)))), show D8 1 = D 1 from (((show D8 1 = D4 1 from (eD8 1).trans (hD8 0 rfl))).trans ((show D4 1 = D 1 from (eD4 1).trans (hD4 0 rfl))))]) ?_
  refine v_g H (o := 0) (v := .ref (D8 3)) rfl rfl rfl rfl rfl (vrf (pf8_0_0)) ?_
  refine Ew_of (pc' := 22) (fun _ => x_iconst rfl) ?_
  refine v_lI H (o := 3) rfl rfl rfl rfl (n := n3) ((congrArg (fun q : Nat => (q : Int)) (show N8 3 = N4 3 from (eN8 3))).trans ((congrArg (fun q : Nat => (q : Int)) (show N4 3 = N 3 from (eN4 3))).trans (en3))) (show 0 ≤ 4 ∧ 4 < n3 by omega) (fun v11 ev11 qv11 => ?_)
  have ev11 : (A 3) (4) = v11 := (congrFun (((show A8 3 = A4 3 from (eA8 3))).trans ((show A4 3 = A 3 from (eA4 3)))) (4)).symm.trans ev11
  refine Ew_of (pc' := 24) (fun _ => x_iconst rfl) ?_
  refine w_ishlA rfl (fun z12 gz12 => ?_)
  refine v_inv H (o := 1) rfl rfl rfl rfl rfl rfl (by rfl) (C159 (D := pul [1, 2] D8) (N := pul [1, 2] N8) (HW_sub H (VS_of (show vsub V219_Row V159 [1, 2] = true by decide +kernel))) (pf8_1_0) (m8_1) ((congrArg (fun q : Nat => (q : Int)) (eN8 2)).trans em8_1) (y8_0_1) (((eF8 1 1).trans ey8_0_1)) (show inr (z12) by omega) (show 0 ≤ (y8_0_1) ∧ (y8_0_1) ≤ (m8_1) ∧ (m8_1) ≤ 65536 by omega) (fun σ13 D13' N13' F13' A13' c13 s13 H' O' hD13 hN13 hS13 hA13 pm13_1 m13_1 em13_1 y13_0_1 ey13_0_1 pz13_0 pz13_1 pz13_2 => ⟨rfl, ?_⟩))
  refine v_backM (c := ((c + c4) + c8)) (s := ((s + s4) + s8)) H (show vsub V219_Row V159 [1, 2] = true by decide +kernel) H' O' hD13 (show vmov V219_Row [1, 2] [1] = true by decide +kernel) (fun D13 N13 F13 A13 H O' eD13 eN13 eF13 eA13 => ?_)
  have O := OUT_trans O O'
  -- Row.add
  have pf13_0_0 : F13 0 0 = (D13 3 : Int) := ((show F13 0 0 = F8 0 0 from (eF13 0 0))).trans ((pf8_0_0).trans (congrArg (fun q : Nat => (q : Int)) ((show D13 3 = D8 3 from (eD13 3))).symm))
  have pf13_1_0 : F13 1 0 = (D13 2 : Int) := (eF13 1 0).trans (pm13_1.trans (congrArg (fun q : Nat => (q : Int)) (eD13 2).symm))
  have r14 : (0 : Int) ≤ m13_1 ∧ m13_1 ≤ 1000000 := by have h1 := H.nle 2 (by decide); have h2 : (N13 2 : Int) = m13_1 := (congrArg (fun q : Nat => (q : Int)) (eN13 2)).trans em13_1; omega
  have r15 : (-2147483648 : Int) ≤ y13_0_1 ∧ y13_0_1 ≤ 2147483647 := by have h1 : (-2147483648 : Int) ≤ F13 1 1 ∧ F13 1 1 ≤ 2147483647 := H.krg 1 1 (by decide); rw [show F13 1 1 = y13_0_1 from ((eF13 1 1).trans ey13_0_1)] at h1; exact h1
  have hc46 : ∀ (ls : rO) (σ : rS) (D_c46 N_c46 : Nat → Nat) (c_c46 s_c46 : Nat) (F_c46 : hF) (A_c46 : hA) , rlook ls 0 = some (.ref (D_c46 0)) → rlook ls 1 = some (.ref (D_c46 1)) → HW V219_Row σ D_c46 N_c46 F_c46 A_c46 → OUT (V219_Row).length D N σE c s D_c46 N_c46 σ c_c46 s_c46 → SD [2] D13 D_c46 → SD [2] N13 N_c46 → SF [(1, 0), (1, 1), (1, 2)] F13 F_c46 → SA [2] A13 A_c46 → F_c46 1 0 = (D_c46 2 : Int) → ∀ mc46_2 : Int, (N_c46 2 : Int) = mc46_2 → ∀ yc46_1_1 : Int, F_c46 1 1 = yc46_1_1 → (0 ≤ (yc46_1_1) ∧ (yc46_1_1) ≤ (mc46_2) ∧ (mc46_2) ≤ 65536) → (4 ≤ (yc46_1_1) ∧ (yc46_1_1) ≤ 2000) → Ew 219 (d + 3) 46 ls [] σ c_c46 s_c46 Q := by
   as_aux_lemma =>
    intro  ls σ D_c46 N_c46 c_c46 s_c46 F_c46 A_c46  lc46_0 lc46_1 H O hD_c46 hN_c46 hS_c46 hA_c46 pmc46_2 mc46_2 emc46_2 yc46_1_1 eyc46_1_1  jc46_0 jc46_1
    have pf_c46_0_0 : F_c46 0 0 = (D_c46 3 : Int) := (hS_c46 0 0 rfl).trans ((pf13_0_0).trans (congrArg (fun q : Nat => (q : Int)) (hD_c46 3 rfl).symm))
    have r16 : (0 : Int) ≤ mc46_2 ∧ mc46_2 ≤ 1000000 := by have h1 := H.nle 2 (by decide); have h2 : (N_c46 2 : Int) = mc46_2 := emc46_2; omega
    have r17 : (-2147483648 : Int) ≤ yc46_1_1 ∧ yc46_1_1 ≤ 2147483647 := by have h1 : (-2147483648 : Int) ≤ F_c46 1 1 ∧ F_c46 1 1 ≤ 2147483647 := H.krg 1 1 (by decide); rw [show F_c46 1 1 = yc46_1_1 from (eyc46_1_1)] at h1; exact h1
    have hc67 : ∀ (ls : rO) (σ : rS) (D_c67 N_c67 : Nat → Nat) (c_c67 s_c67 : Nat) (F_c67 : hF) (A_c67 : hA) , rlook ls 1 = some (.ref (D_c67 1)) → HW V219_Row σ D_c67 N_c67 F_c67 A_c67 → OUT (V219_Row).length D N σE c s D_c67 N_c67 σ c_c67 s_c67 → SD [2] D_c46 D_c67 → SD [2] N_c46 N_c67 → SF [(1, 0), (1, 1), (1, 2)] F_c46 F_c67 → SA [2] A_c46 A_c67 → F_c67 1 0 = (D_c67 2 : Int) → ∀ mc67_2 : Int, (N_c67 2 : Int) = mc67_2 → ∀ yc67_1_1 : Int, F_c67 1 1 = yc67_1_1 → (0 ≤ (yc67_1_1) ∧ (yc67_1_1) ≤ (mc67_2) ∧ (mc67_2) ≤ 65536) → (4 ≤ (yc67_1_1) ∧ (yc67_1_1) ≤ 3000) → Ew 219 (d + 3) 67 ls [] σ c_c67 s_c67 Q := by
     as_aux_lemma =>
      intro  ls σ D_c67 N_c67 c_c67 s_c67 F_c67 A_c67  lc67_1 H O hD_c67 hN_c67 hS_c67 hA_c67 pmc67_2 mc67_2 emc67_2 yc67_1_1 eyc67_1_1  jc67_0 jc67_1
      have pf_c67_0_0 : F_c67 0 0 = (D_c67 3 : Int) := (hS_c67 0 0 rfl).trans ((pf_c46_0_0).trans (congrArg (fun q : Nat => (q : Int)) (hD_c67 3 rfl).symm))
      have r18 : (0 : Int) ≤ mc67_2 ∧ mc67_2 ≤ 1000000 := by have h1 := H.nle 2 (by decide); have h2 : (N_c67 2 : Int) = mc67_2 := emc67_2; omega
      have r19 : (-2147483648 : Int) ≤ yc67_1_1 ∧ yc67_1_1 ≤ 2147483647 := by have h1 : (-2147483648 : Int) ≤ F_c67 1 1 ∧ F_c67 1 1 ≤ 2147483647 := H.krg 1 1 (by decide); rw [show F_c67 1 1 = yc67_1_1 from (eyc67_1_1)] at h1; exact h1
      refine Ew_of (pc' := 68) (fun _ => x_aload_n rfl lc67_1) ?_
      refine Ew_of (pc' := 69) (fun _ => x_aload_n rfl lc67_1) ?_
      refine v_g H (o := 1) (v := .ref (D_c67 2)) rfl rfl rfl rfl rfl (vrf (pmc67_2)) ?_
      refine Ew_of (pc' := 73) (fun _ => x_iconst rfl) ?_
      refine Ew_of (pc' := 74) (fun _ => x_aload_n rfl lc67_1) ?_
      refine v_g H (o := 1) (v := I (yc67_1_1)) rfl rfl rfl rfl rfl (congrArg (fun z : Int => I z) ((eyc67_1_1) : F_c67 1 1 = yc67_1_1)) ?_
      refine Ew_of (pc' := 78) (fun _ => x_iconst rfl) ?_
      refine w_stat25 rfl rfl (by rfl) (C49_Br (D := pul [2] D_c67) (N := pul [2] N_c67) (HW_sub H (VS_of (show vsub V219_Row V49_Br [2] = true by decide +kernel))) (mc67_2) (emc67_2) (show inr (4) by omega) (show inr (yc67_1_1) by omega) (show inr (0) by omega) (show 0 ≤ (4) ∧ (4) ≤ (yc67_1_1) ∧ (yc67_1_1) ≤ (mc67_2) by omega) (fun z20 σ20 F20' A20' H' O' hS20 hA20 pz20_0 => ⟨rfl, ?_⟩))
      refine v_back (c := c_c67) (s := s_c67) H (show vsub V219_Row V49_Br [2] = true by decide +kernel) H' O' (fun F20 A20 H O' eF20 eA20 => ?_)
      have O := OUT_trans O O'
      -- PackHouse.narrowSum
      refine Ew_of (pc' := 83) (fun _ => x_bipush (z := 8) rfl (by decide)) ?_
      refine w_iushrA rfl (fun z21 gz21 => ?_)
      refine v_inv H (o := 1) rfl rfl rfl rfl rfl rfl (by rfl) (C159 (D := pul [1, 2] D_c67) (N := pul [1, 2] N_c67) (HW_sub H (VS_of (show vsub V219_Row V159 [1, 2] = true by decide +kernel))) ((((show F20 1 0 = F_c67 1 0 from (eF20 1 0)))).trans (pmc67_2)) (mc67_2) (emc67_2) (yc67_1_1) ((((show F20 1 1 = F_c67 1 1 from (eF20 1 1))).trans (eyc67_1_1))) (show inr (z21) by omega) (show 0 ≤ (yc67_1_1) ∧ (yc67_1_1) ≤ (mc67_2) ∧ (mc67_2) ≤ 65536 by omega) (fun σ22 D22' N22' F22' A22' c22 s22 H' O' hD22 hN22 hS22 hA22 pm22_1 m22_1 em22_1 y22_0_1 ey22_0_1 pz22_0 pz22_1 pz22_2 => ⟨rfl, ?_⟩))
      refine v_backM (c := c_c67) (s := s_c67) H (show vsub V219_Row V159 [1, 2] = true by decide +kernel) H' O' hD22 (show vmov V219_Row [1, 2] [1] = true by decide +kernel) (fun D22 N22 F22 A22 H O' eD22 eN22 eF22 eA22 => ?_)
      have O := OUT_trans O O'
      -- Row.add
      have pf22_0_0 : F22 0 0 = (D22 3 : Int) := ((show F22 0 0 = F20 0 0 from (eF22 0 0))).trans (((((show F20 0 0 = F_c67 0 0 from (eF20 0 0)))).trans (pf_c67_0_0)).trans (congrArg (fun q : Nat => (q : Int)) ((show D22 3 = D_c67 3 from (eD22 3))).symm))
      have pf22_1_0 : F22 1 0 = (D22 2 : Int) := (eF22 1 0).trans (pm22_1.trans (congrArg (fun q : Nat => (q : Int)) (eD22 2).symm))
      have r23 : (0 : Int) ≤ m22_1 ∧ m22_1 ≤ 1000000 := by have h1 := H.nle 2 (by decide); have h2 : (N22 2 : Int) = m22_1 := (congrArg (fun q : Nat => (q : Int)) (eN22 2)).trans em22_1; omega
      have r24 : (-2147483648 : Int) ≤ y22_0_1 ∧ y22_0_1 ≤ 2147483647 := by have h1 : (-2147483648 : Int) ≤ F22 1 1 ∧ F22 1 1 ≤ 2147483647 := H.krg 1 1 (by decide); rw [show F22 1 1 = y22_0_1 from ((eF22 1 1).trans ey22_0_1)] at h1; exact h1
      exact w_ret rfl (k _ _ _ _ _ _ _ H O (SD_trans (SD_trans (SD_trans (SD_trans (SD_trans (SD_trans (SD_refl) (SD_glu (ι := [1, 2]) hD4 eD4 (by decide +kernel)) (any_subA (l' := [2]) rfl)) (SD_glu (ι := [1, 2]) hD8 eD8 (by decide +kernel)) (any_subA (l' := [2]) rfl)) (SD_glu (ι := [1, 2]) hD13 eD13 (by decide +kernel)) (any_subA (l' := [2]) rfl)) hD_c46 (any_subA rfl)) hD_c67 (any_subA rfl)) (SD_glu (ι := [1, 2]) hD22 eD22 (by decide +kernel)) (any_subA (l' := [2]) rfl)) (SD_trans (SD_trans (SD_trans (SD_trans (SD_trans (SD_trans (SD_refl) (SD_glu (ι := [1, 2]) hN4 eN4 (by decide +kernel)) (any_subA (l' := [2]) rfl)) (SD_glu (ι := [1, 2]) hN8 eN8 (by decide +kernel)) (any_subA (l' := [2]) rfl)) (SD_glu (ι := [1, 2]) hN13 eN13 (by decide +kernel)) (any_subA (l' := [2]) rfl)) hN_c46 (any_subA rfl)) hN_c67 (any_subA rfl)) (SD_glu (ι := [1, 2]) hN22 eN22 (by decide +kernel)) (any_subA (l' := [2]) rfl)) (SF_trans (SF_trans (SF_trans (SF_trans (SF_trans (SF_trans (SF_trans (SF_refl) (SF_glu (ι := [1, 2]) hS4 eF4 (by decide +kernel)) (any_sub (l' := [(1, 0), (1, 1), (1, 2)]) rfl)) (SF_glu (ι := [1, 2]) hS8 eF8 (by decide +kernel)) (any_sub (l' := [(1, 0), (1, 1), (1, 2)]) rfl)) (SF_glu (ι := [1, 2]) hS13 eF13 (by decide +kernel)) (any_sub (l' := [(1, 0), (1, 1), (1, 2)]) rfl)) hS_c46 (any_sub rfl)) hS_c67 (any_sub rfl)) (SF_glu (ι := [2]) hS20 eF20 (by decide +kernel)) (any_sub (l' := []) rfl)) (SF_glu (ι := [1, 2]) hS22 eF22 (by decide +kernel)) (any_sub (l' := [(1, 0), (1, 1), (1, 2)]) rfl)) (SA_trans (SA_trans (SA_trans (SA_trans (SA_trans (SA_trans (SA_trans (SA_refl) (SA_glu (ι := [1, 2]) hA4 eA4 (by decide +kernel)) (any_subA (l' := [2]) rfl)) (SA_glu (ι := [1, 2]) hA8 eA8 (by decide +kernel)) (any_subA (l' := [2]) rfl)) (SA_glu (ι := [1, 2]) hA13 eA13 (by decide +kernel)) (any_subA (l' := [2]) rfl)) hA_c46 (any_subA rfl)) hA_c67 (any_subA rfl)) (SA_glu (ι := [2]) hA20 eA20 (by decide +kernel)) (any_subA (l' := []) rfl)) (SA_glu (ι := [1, 2]) hA22 eA22 (by decide +kernel)) (any_subA (l' := [2]) rfl)) (pf22_1_0) (m22_1) ((congrArg (fun q : Nat => (q : Int)) (eN22 2)).trans em22_1) (y22_0_1) (((eF22 1 1).trans ey22_0_1)) (show 0 ≤ (y22_0_1) ∧ (y22_0_1) ≤ (m22_1) ∧ (m22_1) ≤ 65536 by omega))
    refine Ew_of (pc' := 47) (fun _ => x_aload_n rfl lc46_0) ?_
    refine v_g H (o := 0) (v := I (F 0 8)) rfl rfl rfl rfl rfl (congrArg (fun z : Int => I z) (((((hS_c46 0 8 rfl).trans ((show F13 0 8 = F8 0 8 from (eF13 0 8)))).trans ((show F8 0 8 = F4 0 8 from (eF8 0 8)))).trans ((show F4 0 8 = F 0 8 from (eF4 0 8)))) : F_c46 0 8 = F 0 8)) ?_
    refine Ew_of (pc' := 51) (fun _ => x_iconst rfl) ?_
    refine w_iand rfl (show inr (F 0 8) by omega) (show inr (1) by omega) (fun z25 gz25 gaz25 gbz25 => ?_)
    refine w_ifeq (t := 67) rfl rfl (show inr (z25) by omega) (fun b26 => ?_) (fun b26 => ?_)
    · exact hc67  _ _ _ _ _ _ _ _  (lc46_1) H O (SD_refl) (SD_refl) (SF_refl) (SA_refl) (pmc46_2) (mc46_2) (emc46_2) (yc46_1_1) ((eyc46_1_1))  (show 0 ≤ (yc46_1_1) ∧ (yc46_1_1) ≤ (mc46_2) ∧ (mc46_2) ≤ 65536 by omega) (show 4 ≤ (yc46_1_1) ∧ (yc46_1_1) ≤ 3000 by omega)
    · refine Ew_of (pc' := 56) (fun _ => x_aload_n rfl lc46_1) ?_
      refine Ew_of (pc' := 57) (fun _ => x_aload_n rfl lc46_0) ?_
      refine v_g H (o := 0) (v := .ref (D_c46 3)) rfl rfl rfl rfl rfl (vrf (pf_c46_0_0)) ?_
      refine Ew_of (pc' := 61) (fun _ => x_iconst rfl) ?_
      refine v_lI H (o := 3) rfl rfl rfl rfl (n := n3) ((congrArg (fun q : Nat => (q : Int)) (hN_c46 3 rfl)).trans ((congrArg (fun q : Nat => (q : Int)) (show N13 3 = N8 3 from (eN13 3))).trans ((congrArg (fun q : Nat => (q : Int)) (show N8 3 = N4 3 from (eN8 3))).trans ((congrArg (fun q : Nat => (q : Int)) (show N4 3 = N 3 from (eN4 3))).trans (en3))))) (show 0 ≤ 5 ∧ 5 < n3 by omega) (fun v27 ev27 qv27 => ?_)
      have ev27 : (A 3) (5) = v27 := (congrFun ((funext (hA_c46 3 rfl)).trans (((show A13 3 = A8 3 from (eA13 3))).trans (((show A8 3 = A4 3 from (eA8 3))).trans ((show A4 3 = A 3 from (eA4 3)))))) (5)).symm.trans ev27
      refine w_i2l rfl (show inr (v27) by omega) ?_
      refine Ew_of (pc' := 64) (fun _ => x_iconst rfl) ?_
      refine v_inv H (o := 1) rfl rfl rfl rfl rfl rfl (by rfl) (C160 (D := pul [1, 2] D_c46) (N := pul [1, 2] N_c46) (HW_sub H (VS_of (show vsub V219_Row V160 [1, 2] = true by decide +kernel))) (pmc46_2) (mc46_2) (emc46_2) (yc46_1_1) ((eyc46_1_1)) (show inrJ (v27) by omega) (show inr (4) by omega) (show 0 ≤ (yc46_1_1) ∧ (yc46_1_1) ≤ (mc46_2) ∧ (mc46_2) ≤ 65536 by omega) (fun σ28 D28' N28' F28' A28' c28 s28 H' O' hD28 hN28 hS28 hA28 pm28_1 m28_1 em28_1 y28_0_1 ey28_0_1 pz28_0 pz28_1 => ⟨rfl, ?_⟩))
      refine v_backM (c := c_c46) (s := s_c46) H (show vsub V219_Row V160 [1, 2] = true by decide +kernel) H' O' hD28 (show vmov V219_Row [1, 2] [1] = true by decide +kernel) (fun D28 N28 F28 A28 H O' eD28 eN28 eF28 eA28 => ?_)
      have O := OUT_trans O O'
      -- Row.addNumber
      have pf28_0_0 : F28 0 0 = (D28 3 : Int) := ((show F28 0 0 = F_c46 0 0 from (eF28 0 0))).trans ((pf_c46_0_0).trans (congrArg (fun q : Nat => (q : Int)) ((show D28 3 = D_c46 3 from (eD28 3))).symm))
      have pf28_1_0 : F28 1 0 = (D28 2 : Int) := (eF28 1 0).trans (pm28_1.trans (congrArg (fun q : Nat => (q : Int)) (eD28 2).symm))
      have r29 : (0 : Int) ≤ m28_1 ∧ m28_1 ≤ 1000000 := by have h1 := H.nle 2 (by decide); have h2 : (N28 2 : Int) = m28_1 := (congrArg (fun q : Nat => (q : Int)) (eN28 2)).trans em28_1; omega
      have r30 : (-2147483648 : Int) ≤ y28_0_1 ∧ y28_0_1 ≤ 2147483647 := by have h1 : (-2147483648 : Int) ≤ F28 1 1 ∧ F28 1 1 ≤ 2147483647 := H.krg 1 1 (by decide); rw [show F28 1 1 = y28_0_1 from ((eF28 1 1).trans ey28_0_1)] at h1; exact h1
      exact hc67  _ _ _ _ _ _ _ _  ((lc46_1).trans (congrArg (fun q : Nat => some (Value.ref q)) (((show D28 1 = D_c46 1 from (eD28 1).trans (hD28 0 rfl)))).symm)) H O (SD_trans (SD_refl) (SD_glu (ι := [1, 2]) hD28 eD28 (by decide +kernel)) (any_subA (l' := [2]) rfl)) (SD_trans (SD_refl) (SD_glu (ι := [1, 2]) hN28 eN28 (by decide +kernel)) (any_subA (l' := [2]) rfl)) (SF_trans (SF_refl) (SF_glu (ι := [1, 2]) hS28 eF28 (by decide +kernel)) (any_sub (l' := [(1, 0), (1, 1), (1, 2)]) rfl)) (SA_trans (SA_refl) (SA_glu (ι := [1, 2]) hA28 eA28 (by decide +kernel)) (any_subA (l' := [2]) rfl)) (pf28_1_0) (m28_1) ((congrArg (fun q : Nat => (q : Int)) (eN28 2)).trans em28_1) (y28_0_1) (((eF28 1 1).trans ey28_0_1))  (show 0 ≤ (y28_0_1) ∧ (y28_0_1) ≤ (m28_1) ∧ (m28_1) ≤ 65536 by omega) (show 4 ≤ (y28_0_1) ∧ (y28_0_1) ≤ 3000 by omega)
  refine Ew_of (pc' := 29) (fun _ => x_aload_n rfl rfl) ?_
  refine Ew_stk (show ([.ref (D 0)] : List Value) = [.ref (D13 0)] by rw [show D13 0 = D 0 from ((((show D13 0 = D8 0 from (eD13 0))).trans ((show D8 0 = D4 0 from (eD8 0)))).trans ((show D4 0 = D 0 from (eD4 0))))]) ?_
  refine v_g H (o := 0) (v := I (F 0 8)) rfl rfl rfl rfl rfl (congrArg (fun z : Int => I z) (((((show F13 0 8 = F8 0 8 from (eF13 0 8))).trans ((show F8 0 8 = F4 0 8 from (eF8 0 8)))).trans ((show F4 0 8 = F 0 8 from (eF4 0 8)))) : F13 0 8 = F 0 8)) ?_
  refine Ew_of (pc' := 34) (fun _ => x_bipush (z := 8) rfl (by decide)) ?_
  refine w_iand rfl (show inr (F 0 8) by omega) (show inr (8) by omega) (fun z31 gz31 gaz31 gbz31 => ?_)
  refine w_ifeq (t := 46) rfl rfl (show inr (z31) by omega) (fun b32 => ?_) (fun b32 => ?_)
  · exact hc46  _ _ _ _ _ _ _ _  ((rfl).trans (congrArg (fun q : Nat => some (Value.ref q)) (((((show D13 0 = D8 0 from (eD13 0))).trans ((show D8 0 = D4 0 from (eD8 0)))).trans ((show D4 0 = D 0 from (eD4 0))))).symm)) ((rfl).trans (congrArg (fun q : Nat => some (Value.ref q)) (((((show D13 1 = D8 1 from (eD13 1).trans (hD13 0 rfl))).trans ((show D8 1 = D4 1 from (eD8 1).trans (hD8 0 rfl)))).trans ((show D4 1 = D 1 from (eD4 1).trans (hD4 0 rfl))))).symm)) H O (SD_refl) (SD_refl) (SF_refl) (SA_refl) (pf13_1_0) (m13_1) ((congrArg (fun q : Nat => (q : Int)) (eN13 2)).trans em13_1) (y13_0_1) (((eF13 1 1).trans ey13_0_1))  (show 0 ≤ (y13_0_1) ∧ (y13_0_1) ≤ (m13_1) ∧ (m13_1) ≤ 65536 by omega) (show 4 ≤ (y13_0_1) ∧ (y13_0_1) ≤ 2000 by omega)
  · refine Ew_of (pc' := 39) (fun _ => x_aload_n rfl rfl) ?_
    refine Ew_of (pc' := 40) (fun _ => x_iload_n rfl rfl) ?_
    refine w_i2l rfl (show inr (a2) by omega) ?_
    refine Ew_of (pc' := 43) (fun _ => x_bipush (z := 8) rfl (by decide)) ?_
    refine Ew_stk (show ([I (8), J (a2), .ref (D 1)] : List Value) = [I (8), J (a2), .ref (D13 1)] by rw [show D13 1 = D 1 from ((((show D13 1 = D8 1 from (eD13 1).trans (hD13 0 rfl))).trans ((show D8 1 = D4 1 from (eD8 1).trans (hD8 0 rfl)))).trans ((show D4 1 = D 1 from (eD4 1).trans (hD4 0 rfl))))]) ?_
    refine v_inv H (o := 1) rfl rfl rfl rfl rfl rfl (by rfl) (C160 (D := pul [1, 2] D13) (N := pul [1, 2] N13) (HW_sub H (VS_of (show vsub V219_Row V160 [1, 2] = true by decide +kernel))) (pf13_1_0) (m13_1) ((congrArg (fun q : Nat => (q : Int)) (eN13 2)).trans em13_1) (y13_0_1) (((eF13 1 1).trans ey13_0_1)) (show inrJ (a2) by omega) (show inr (8) by omega) (show 0 ≤ (y13_0_1) ∧ (y13_0_1) ≤ (m13_1) ∧ (m13_1) ≤ 65536 by omega) (fun σ33 D33' N33' F33' A33' c33 s33 H' O' hD33 hN33 hS33 hA33 pm33_1 m33_1 em33_1 y33_0_1 ey33_0_1 pz33_0 pz33_1 => ⟨rfl, ?_⟩))
    refine v_backM (c := (((c + c4) + c8) + c13)) (s := (((s + s4) + s8) + s13)) H (show vsub V219_Row V160 [1, 2] = true by decide +kernel) H' O' hD33 (show vmov V219_Row [1, 2] [1] = true by decide +kernel) (fun D33 N33 F33 A33 H O' eD33 eN33 eF33 eA33 => ?_)
    have O := OUT_trans O O'
    -- Row.addNumber
    have pf33_0_0 : F33 0 0 = (D33 3 : Int) := ((show F33 0 0 = F13 0 0 from (eF33 0 0))).trans ((pf13_0_0).trans (congrArg (fun q : Nat => (q : Int)) ((show D33 3 = D13 3 from (eD33 3))).symm))
    have pf33_1_0 : F33 1 0 = (D33 2 : Int) := (eF33 1 0).trans (pm33_1.trans (congrArg (fun q : Nat => (q : Int)) (eD33 2).symm))
    have r34 : (0 : Int) ≤ m33_1 ∧ m33_1 ≤ 1000000 := by have h1 := H.nle 2 (by decide); have h2 : (N33 2 : Int) = m33_1 := (congrArg (fun q : Nat => (q : Int)) (eN33 2)).trans em33_1; omega
    have r35 : (-2147483648 : Int) ≤ y33_0_1 ∧ y33_0_1 ≤ 2147483647 := by have h1 : (-2147483648 : Int) ≤ F33 1 1 ∧ F33 1 1 ≤ 2147483647 := H.krg 1 1 (by decide); rw [show F33 1 1 = y33_0_1 from ((eF33 1 1).trans ey33_0_1)] at h1; exact h1
    exact hc46  _ _ _ _ _ _ _ _  ((rfl).trans (congrArg (fun q : Nat => some (Value.ref q)) ((((((show D33 0 = D13 0 from (eD33 0))).trans ((show D13 0 = D8 0 from (eD13 0)))).trans ((show D8 0 = D4 0 from (eD8 0)))).trans ((show D4 0 = D 0 from (eD4 0))))).symm)) ((rfl).trans (congrArg (fun q : Nat => some (Value.ref q)) ((((((show D33 1 = D13 1 from (eD33 1).trans (hD33 0 rfl))).trans ((show D13 1 = D8 1 from (eD13 1).trans (hD13 0 rfl)))).trans ((show D8 1 = D4 1 from (eD8 1).trans (hD8 0 rfl)))).trans ((show D4 1 = D 1 from (eD4 1).trans (hD4 0 rfl))))).symm)) H O (SD_trans (SD_refl) (SD_glu (ι := [1, 2]) hD33 eD33 (by decide +kernel)) (any_subA (l' := [2]) rfl)) (SD_trans (SD_refl) (SD_glu (ι := [1, 2]) hN33 eN33 (by decide +kernel)) (any_subA (l' := [2]) rfl)) (SF_trans (SF_refl) (SF_glu (ι := [1, 2]) hS33 eF33 (by decide +kernel)) (any_sub (l' := [(1, 0), (1, 1), (1, 2)]) rfl)) (SA_trans (SA_refl) (SA_glu (ι := [1, 2]) hA33 eA33 (by decide +kernel)) (any_subA (l' := [2]) rfl)) (pf33_1_0) (m33_1) ((congrArg (fun q : Nat => (q : Int)) (eN33 2)).trans em33_1) (y33_0_1) (((eF33 1 1).trans ey33_0_1))  (show 0 ≤ (y33_0_1) ∧ (y33_0_1) ≤ (m33_1) ∧ (m33_1) ≤ 65536 by omega) (show 4 ≤ (y33_0_1) ∧ (y33_0_1) ≤ 2000 by omega)
abbrev V220_Row_Row : vV := [(0, 11, [(4, 0), (4, 0), (4, 0), (4, 0), (4, 0), (0, 0), (4, 0), (0, 0), (0, 0), (0, 0), (0, 0), (0, 0), (0, 0)]), (0, 7, [(4, 0), (0, 0), (1, 0), (0, 0), (0, 0)]), (0, 7, [(4, 0), (0, 0), (1, 0), (0, 0), (0, 0)]), (1, 0, []), (1, 0, [])]
/-- Tokens.addBlock: this, #1, #2, #1.bytes, #2.bytes -/
theorem C220_Row_Row {σE : rS} {D N : Nat → Nat} {F : hF} {A : hA} {d c s : Nat} {Q : wQ} (H : HW V220_Row_Row σE D N F A) {a3 a4 : Int} (pf3 : F 1 0 = (D 3 : Int)) (pf4 : F 2 0 = (D 4 : Int)) (n3 : Int) (en3 : (N 3 : Int) = n3) (n4 : Int) (en4 : (N 4 : Int) = n4) (u1_1 : Int) (eu1_1 : F 1 1 = u1_1) (u2_1 : Int) (eu2_1 : F 2 1 = u2_1) (h0 : inr (a3)) (h1 : inr (a4)) (h2 : (a4) = 0 ∨ (a4) = 1) (h3 : 0 ≤ (u1_1) ∧ (u1_1) ≤ (n3) ∧ (n3) ≤ 65536) (h4 : 0 ≤ (u2_1) ∧ (u2_1) ≤ (n4) ∧ (n4) ≤ 65536) (h5 : 0 ≤ (a3) ∧ (a3) ≤ (u2_1)) (k : ∀ (σ : rS) (D' N' : Nat → Nat) (F' : hF) (A' : hA) (c' s' : Nat), HW V220_Row_Row σ D' N' F' A' → OUT (V220_Row_Row).length D N σE c s D' N' σ c' s' → SD [3] D D' → SD [3] N N' → SF [(1, 0), (1, 1), (1, 2)] F F' → SA [3] A A' → F' 1 0 = (D' 3 : Int) → ∀ m3 : Int, (N' 3 : Int) = m3 → ∀ y1_1 : Int, F' 1 1 = y1_1 → (0 ≤ (y1_1) ∧ (y1_1) ≤ (m3) ∧ (m3) ≤ 65536) → Q none σ c' s') : Ew 220 (d + 3) 0 (rargs 0 [.ref (D 0), .ref (D 1), .ref (D 2), I a3, I a4]) [] σE c s Q := by
  have O := OUT_refl (n := (V220_Row_Row).length) (D := D) (N := N) (σ := σE) (c := c) (s := s)
  have HE := H
  have r1 : (-2147483648 : Int) ≤ u1_1 ∧ u1_1 ≤ 2147483647 := by have h1 : (-2147483648 : Int) ≤ F 1 1 ∧ F 1 1 ≤ 2147483647 := H.krg 1 1 (by decide); rw [show F 1 1 = u1_1 from (eu1_1)] at h1; exact h1
  have r2 : (-2147483648 : Int) ≤ u2_1 ∧ u2_1 ≤ 2147483647 := by have h1 : (-2147483648 : Int) ≤ F 2 1 ∧ F 2 1 ≤ 2147483647 := H.krg 2 1 (by decide); rw [show F 2 1 = u2_1 from (eu2_1)] at h1; exact h1
  have r3 : (0 : Int) ≤ n3 ∧ n3 ≤ 1000000 := by have h1 := H.nle 3 (by decide); have h2 : (N 3 : Int) = n3 := en3; omega
  have r4 : (0 : Int) ≤ n4 ∧ n4 ≤ 1000000 := by have h1 := H.nle 4 (by decide); have h2 : (N 4 : Int) = n4 := en4; omega
  refine Ew_of (pc' := 1) (fun _ => x_aload_n rfl rfl) ?_
  refine v_g H (o := 2) (v := I (u2_1)) rfl rfl rfl rfl rfl (congrArg (fun z : Int => I z) ((eu2_1) : F 2 1 = u2_1)) ?_
  refine Ew_of (pc' := 5) (fun _ => x_iload_n rfl rfl) ?_
  refine w_isub rfl ?_
  refine Ew_of (pc' := 8) (fun _ => x_istore rfl) ?_
  refine Ew_of (pc' := 9) (fun _ => x_aload_n rfl (rk_o (rfl) rfl rfl)) ?_
  have hc26 : ∀ (tc26_0 : Int), ∀ (ls : rO) (σ : rS) (F_c26 : hF) (A_c26 : hA) , rlook ls 0 = some (.ref (D 0)) → rlook ls 1 = some (.ref (D 1)) → rlook ls 2 = some (.ref (D 2)) → rlook ls 3 = some (I (a3)) → rlook ls 5 = some (I ((u2_1 - a3))) → HW V220_Row_Row σ D N F_c26 A_c26 → OUT (V220_Row_Row).length D N σE c s D N σ c s → SF [] F F_c26 → SA [] A A_c26 → (inrJ (tc26_0)) → Ew 220 (d + 3) 26 ls [J (tc26_0), .ref (D 1)] σ c s Q := by
   as_aux_lemma =>
    intro tc26_0 ls σ F_c26 A_c26  lc26_0 lc26_1 lc26_2 lc26_3 lc26_5 H O hS_c26 hA_c26     jc26_0
    refine Ew_of (pc' := 27) (fun _ => x_iconst rfl) ?_
    refine v_inv H (o := 1) rfl rfl rfl rfl rfl rfl (by rfl) (C160 (D := pul [1, 3] D) (N := pul [1, 3] N) (HW_sub H (VS_of (show vsub V220_Row_Row V160 [1, 3] = true by decide +kernel))) (((hS_c26 1 0 rfl)).trans (pf3)) (n3) (en3) (u1_1) (((hS_c26 1 1 rfl).trans (eu1_1))) (show inrJ (tc26_0) by omega) (show inr (4) by omega) (show 0 ≤ (u1_1) ∧ (u1_1) ≤ (n3) ∧ (n3) ≤ 65536 by omega) (fun σ5 D5' N5' F5' A5' c5 s5 H' O' hD5 hN5 hS5 hA5 pm5_1 m5_1 em5_1 y5_0_1 ey5_0_1 pz5_0 pz5_1 => ⟨rfl, ?_⟩))
    refine v_backM (c := c) (s := s) H (show vsub V220_Row_Row V160 [1, 3] = true by decide +kernel) H' O' hD5 (show vmov V220_Row_Row [1, 3] [1] = true by decide +kernel) (fun D5 N5 F5 A5 H O' eD5 eN5 eF5 eA5 => ?_)
    have O := OUT_trans O O'
    -- Row.addNumber
    have pf5_1_0 : F5 1 0 = (D5 3 : Int) := (eF5 1 0).trans (pm5_1.trans (congrArg (fun q : Nat => (q : Int)) (eD5 3).symm))
    have pf5_2_0 : F5 2 0 = (D5 4 : Int) := ((show F5 2 0 = F_c26 2 0 from (eF5 2 0))).trans ((((hS_c26 2 0 rfl)).trans (pf4)).trans (congrArg (fun q : Nat => (q : Int)) ((show D5 4 = D 4 from (eD5 4))).symm))
    have r6 : (0 : Int) ≤ m5_1 ∧ m5_1 ≤ 1000000 := by have h1 := H.nle 3 (by decide); have h2 : (N5 3 : Int) = m5_1 := (congrArg (fun q : Nat => (q : Int)) (eN5 3)).trans em5_1; omega
    have r7 : (-2147483648 : Int) ≤ y5_0_1 ∧ y5_0_1 ≤ 2147483647 := by have h1 : (-2147483648 : Int) ≤ F5 1 1 ∧ F5 1 1 ≤ 2147483647 := H.krg 1 1 (by decide); rw [show F5 1 1 = y5_0_1 from ((eF5 1 1).trans ey5_0_1)] at h1; exact h1
    refine Ew_of (pc' := 31) (fun _ => x_aload_n rfl lc26_1) ?_
    refine Ew_of (pc' := 32) (fun _ => x_aload_n rfl lc26_2) ?_
    refine Ew_stk (show ([.ref (D 2), .ref (D 1)] : List Value) = [.ref (D5 2), .ref (D5 1)] by rw [show D5 1 = D 1 from ((show D5 1 = D 1 from (eD5 1).trans (hD5 0 rfl))), show D5 2 = D 2 from ((show D5 2 = D 2 from (eD5 2)))]) ?_
    refine v_g H (o := 2) (v := .ref (D5 4)) rfl rfl rfl rfl rfl (vrf (pf5_2_0)) ?_
    refine Ew_of (pc' := 36) (fun _ => x_iload_n rfl lc26_3) ?_
    refine Ew_of (pc' := 38) (fun _ => x_iload rfl lc26_5) ?_
    refine v_inv H (o := 1) rfl rfl rfl rfl rfl rfl (by rfl) (C161_Br (D := pul [1, 4, 3] D5) (N := pul [1, 4, 3] N5) (HW_sub H (VS_of (show vsub V220_Row_Row V161_Br [1, 4, 3] = true by decide +kernel))) (pf5_1_0) (n4) ((congrArg (fun q : Nat => (q : Int)) (show N5 4 = N 4 from (eN5 4))).trans (en4)) (m5_1) ((congrArg (fun q : Nat => (q : Int)) (eN5 3)).trans em5_1) (y5_0_1) (((eF5 1 1).trans ey5_0_1)) (A5 3) (rfl) (show inr (a3) by omega) (show inr ((u2_1 - a3)) by omega) (show 0 ≤ (y5_0_1) ∧ (y5_0_1) ≤ (m5_1) ∧ (m5_1) ≤ 65536 by omega) (show ((u2_1 - a3)) < 0 ∨ 0 ≤ (a3) ∧ (a3) + ((u2_1 - a3)) ≤ (n4) by omega) (fun σ8 D8' N8' F8' A8' c8 s8 H' O' hD8 hN8 hS8 hA8 pm8_2 m8_2 em8_2 y8_0_1 ey8_0_1 w8_2 ew8_2 pz8_0 pz8_1 pz8_2 => ⟨rfl, ?_⟩))
    refine v_backM (c := (c + c5)) (s := (s + s5)) H (show vsub V220_Row_Row V161_Br [1, 4, 3] = true by decide +kernel) H' O' hD8 (show vmov V220_Row_Row [1, 4, 3] [2] = true by decide +kernel) (fun D8 N8 F8 A8 H O' eD8 eN8 eF8 eA8 => ?_)
    have O := OUT_trans O O'
    -- Row.addPart
    have pf8_1_0 : F8 1 0 = (D8 3 : Int) := (eF8 1 0).trans (pm8_2.trans (congrArg (fun q : Nat => (q : Int)) (eD8 3).symm))
    have pf8_2_0 : F8 2 0 = (D8 4 : Int) := ((show F8 2 0 = F5 2 0 from (eF8 2 0))).trans ((pf5_2_0).trans (congrArg (fun q : Nat => (q : Int)) ((show D8 4 = D5 4 from (eD8 4).trans (hD8 1 rfl))).symm))
    have r9 : (0 : Int) ≤ m8_2 ∧ m8_2 ≤ 1000000 := by have h1 := H.nle 3 (by decide); have h2 : (N8 3 : Int) = m8_2 := (congrArg (fun q : Nat => (q : Int)) (eN8 3)).trans em8_2; omega
    have r10 : (-2147483648 : Int) ≤ y8_0_1 ∧ y8_0_1 ≤ 2147483647 := by have h1 : (-2147483648 : Int) ≤ F8 1 1 ∧ F8 1 1 ≤ 2147483647 := H.krg 1 1 (by decide); rw [show F8 1 1 = y8_0_1 from ((eF8 1 1).trans ey8_0_1)] at h1; exact h1
    have hc70 : ∀ (ls : rO) (σ : rS) (D_c70 N_c70 : Nat → Nat) (c_c70 s_c70 : Nat) (F_c70 : hF) (A_c70 : hA) , HW V220_Row_Row σ D_c70 N_c70 F_c70 A_c70 → OUT (V220_Row_Row).length D N σE c s D_c70 N_c70 σ c_c70 s_c70 → SD [3] D8 D_c70 → SD [3] N8 N_c70 → SF [(1, 0), (1, 1), (1, 2)] F8 F_c70 → SA [3] A8 A_c70 → F_c70 1 0 = (D_c70 3 : Int) → ∀ mc70_3 : Int, (N_c70 3 : Int) = mc70_3 → ∀ yc70_1_1 : Int, F_c70 1 1 = yc70_1_1 → (0 ≤ (yc70_1_1) ∧ (yc70_1_1) ≤ (mc70_3) ∧ (mc70_3) ≤ 65536) → Ew 220 (d + 3) 70 ls [] σ c_c70 s_c70 Q := by
     as_aux_lemma =>
      intro  ls σ D_c70 N_c70 c_c70 s_c70 F_c70 A_c70   H O hD_c70 hN_c70 hS_c70 hA_c70 pmc70_3 mc70_3 emc70_3 yc70_1_1 eyc70_1_1  jc70_0
      have pf_c70_2_0 : F_c70 2 0 = (D_c70 4 : Int) := (hS_c70 2 0 rfl).trans ((pf8_2_0).trans (congrArg (fun q : Nat => (q : Int)) (hD_c70 4 rfl).symm))
      have r11 : (0 : Int) ≤ mc70_3 ∧ mc70_3 ≤ 1000000 := by have h1 := H.nle 3 (by decide); have h2 : (N_c70 3 : Int) = mc70_3 := emc70_3; omega
      have r12 : (-2147483648 : Int) ≤ yc70_1_1 ∧ yc70_1_1 ≤ 2147483647 := by have h1 : (-2147483648 : Int) ≤ F_c70 1 1 ∧ F_c70 1 1 ≤ 2147483647 := H.krg 1 1 (by decide); rw [show F_c70 1 1 = yc70_1_1 from (eyc70_1_1)] at h1; exact h1
      exact w_ret rfl (k _ _ _ _ _ _ _ H O (SD_trans (SD_trans (SD_trans (SD_refl) (SD_glu (ι := [1, 3]) hD5 eD5 (by decide +kernel)) (any_subA (l' := [3]) rfl)) (SD_glu (ι := [1, 4, 3]) hD8 eD8 (by decide +kernel)) (any_subA (l' := [3]) rfl)) hD_c70 (any_subA rfl)) (SD_trans (SD_trans (SD_trans (SD_refl) (SD_glu (ι := [1, 3]) hN5 eN5 (by decide +kernel)) (any_subA (l' := [3]) rfl)) (SD_glu (ι := [1, 4, 3]) hN8 eN8 (by decide +kernel)) (any_subA (l' := [3]) rfl)) hN_c70 (any_subA rfl)) (SF_trans (SF_trans (SF_trans (SF_trans (SF_refl) hS_c26 (any_sub rfl)) (SF_glu (ι := [1, 3]) hS5 eF5 (by decide +kernel)) (any_sub (l' := [(1, 0), (1, 1), (1, 2)]) rfl)) (SF_glu (ι := [1, 4, 3]) hS8 eF8 (by decide +kernel)) (any_sub (l' := [(1, 0), (1, 1), (1, 2)]) rfl)) hS_c70 (any_sub rfl)) (SA_trans (SA_trans (SA_trans (SA_trans (SA_refl) hA_c26 (any_subA rfl)) (SA_glu (ι := [1, 3]) hA5 eA5 (by decide +kernel)) (any_subA (l' := [3]) rfl)) (SA_glu (ι := [1, 4, 3]) hA8 eA8 (by decide +kernel)) (any_subA (l' := [3]) rfl)) hA_c70 (any_subA rfl)) (pmc70_3) (mc70_3) (emc70_3) (yc70_1_1) ((eyc70_1_1)) (show 0 ≤ (yc70_1_1) ∧ (yc70_1_1) ≤ (mc70_3) ∧ (mc70_3) ≤ 65536 by omega))
    refine Ew_of (pc' := 42) (fun _ => x_aload_n rfl lc26_0) ?_
    refine Ew_stk (show ([.ref (D 0)] : List Value) = [.ref (D8 0)] by rw [show D8 0 = D 0 from (((show D8 0 = D5 0 from (eD8 0))).trans ((show D5 0 = D 0 from (eD5 0))))]) ?_
    have r13 : (-2147483648 : Int) ≤ F 0 8 ∧ F 0 8 ≤ 2147483647 := by have h1 : (-2147483648 : Int) ≤ F8 0 8 ∧ F8 0 8 ≤ 2147483647 := H.krg 0 8 (by decide); rw [show F8 0 8 = F 0 8 from ((((show F8 0 8 = F5 0 8 from (eF8 0 8))).trans ((show F5 0 8 = F_c26 0 8 from (eF5 0 8)))).trans (hS_c26 0 8 rfl))] at h1; exact h1
    refine v_g H (o := 0) (v := I (F 0 8)) rfl rfl rfl rfl rfl (congrArg (fun z : Int => I z) (((((show F8 0 8 = F5 0 8 from (eF8 0 8))).trans ((show F5 0 8 = F_c26 0 8 from (eF5 0 8)))).trans (hS_c26 0 8 rfl)) : F8 0 8 = F 0 8)) ?_
    refine Ew_of (pc' := 47) (fun _ => x_bipush (z := 16) rfl (by decide)) ?_
    refine w_iand rfl (show inr (F 0 8) by omega) (show inr (16) by omega) (fun z14 gz14 gaz14 gbz14 => ?_)
    refine w_ifeq (t := 70) rfl rfl (show inr (z14) by omega) (fun b15 => ?_) (fun b15 => ?_)
    · exact hc70  _ _ _ _ _ _ _ _   H O (SD_refl) (SD_refl) (SF_refl) (SA_refl) (pf8_1_0) (m8_2) ((congrArg (fun q : Nat => (q : Int)) (eN8 3)).trans em8_2) (y8_0_1) (((eF8 1 1).trans ey8_0_1))  (show 0 ≤ (y8_0_1) ∧ (y8_0_1) ≤ (m8_2) ∧ (m8_2) ≤ 65536 by omega)
    · refine Ew_of (pc' := 52) (fun _ => x_aload_n rfl lc26_1) ?_
      refine Ew_of (pc' := 53) (fun _ => x_aload_n rfl lc26_2) ?_
      refine Ew_stk (show ([.ref (D 2), .ref (D 1)] : List Value) = [.ref (D8 2), .ref (D8 1)] by rw [show D8 1 = D 1 from (((show D8 1 = D5 1 from (eD8 1).trans (hD8 0 rfl))).trans ((show D5 1 = D 1 from (eD5 1).trans (hD5 0 rfl)))), show D8 2 = D 2 from (((show D8 2 = D5 2 from (eD8 2))).trans ((show D5 2 = D 2 from (eD5 2))))]) ?_
      refine v_g H (o := 2) (v := .ref (D8 4)) rfl rfl rfl rfl rfl (vrf (pf8_2_0)) ?_
      refine Ew_of (pc' := 57) (fun _ => x_iload_n rfl lc26_3) ?_
      refine Ew_of (pc' := 58) (fun _ => x_aload_n rfl lc26_2) ?_
      refine Ew_stk (show ([.ref (D 2), I (a3), .ref (D8 4), .ref (D8 1)] : List Value) = [.ref (D8 2), I (a3), .ref (D8 4), .ref (D8 1)] by rw [show D8 2 = D 2 from (((show D8 2 = D5 2 from (eD8 2))).trans ((show D5 2 = D 2 from (eD5 2))))]) ?_
      refine v_g H (o := 2) (v := I (u2_1)) rfl rfl rfl rfl rfl (congrArg (fun z : Int => I z) ((((((show F8 2 1 = F5 2 1 from (eF8 2 1))).trans ((show F5 2 1 = F_c26 2 1 from (eF5 2 1)))).trans (hS_c26 2 1 rfl)).trans (eu2_1)) : F8 2 1 = u2_1)) ?_
      refine Ew_of (pc' := 62) (fun _ => x_iconst rfl) ?_
      refine w_stat25 rfl rfl (by rfl) (C49_Br (D := pul [4] D8) (N := pul [4] N8) (HW_sub H (VS_of (show vsub V220_Row_Row V49_Br [4] = true by decide +kernel))) (n4) ((congrArg (fun q : Nat => (q : Int)) (show N8 4 = N5 4 from (eN8 4).trans (hN8 1 rfl))).trans ((congrArg (fun q : Nat => (q : Int)) (show N5 4 = N 4 from (eN5 4))).trans (en4))) (show inr (a3) by omega) (show inr (u2_1) by omega) (show inr (0) by omega) (show 0 ≤ (a3) ∧ (a3) ≤ (u2_1) ∧ (u2_1) ≤ (n4) by omega) (fun z16 σ16 F16' A16' H' O' hS16 hA16 pz16_0 => ⟨rfl, ?_⟩))
      refine v_back (c := ((c + c5) + c8)) (s := ((s + s5) + s8)) H (show vsub V220_Row_Row V49_Br [4] = true by decide +kernel) H' O' (fun F16 A16 H O' eF16 eA16 => ?_)
      have O := OUT_trans O O'
      -- PackHouse.narrowSum
      refine w_i2l rfl (show inr (z16) by omega) ?_
      refine Ew_of (pc' := 67) (fun _ => x_iconst rfl) ?_
      refine v_inv H (o := 1) rfl rfl rfl rfl rfl rfl (by rfl) (C160 (D := pul [1, 3] D8) (N := pul [1, 3] N8) (HW_sub H (VS_of (show vsub V220_Row_Row V160 [1, 3] = true by decide +kernel))) ((((show F16 1 0 = F8 1 0 from (eF16 1 0)))).trans (pf8_1_0)) (m8_2) ((congrArg (fun q : Nat => (q : Int)) (eN8 3)).trans em8_2) (y8_0_1) ((((show F16 1 1 = F8 1 1 from (eF16 1 1))).trans ((eF8 1 1).trans ey8_0_1))) (show inrJ (z16) by omega) (show inr (4) by omega) (show 0 ≤ (y8_0_1) ∧ (y8_0_1) ≤ (m8_2) ∧ (m8_2) ≤ 65536 by omega) (fun σ17 D17' N17' F17' A17' c17 s17 H' O' hD17 hN17 hS17 hA17 pm17_1 m17_1 em17_1 y17_0_1 ey17_0_1 pz17_0 pz17_1 => ⟨rfl, ?_⟩))
      refine v_backM (c := ((c + c5) + c8)) (s := ((s + s5) + s8)) H (show vsub V220_Row_Row V160 [1, 3] = true by decide +kernel) H' O' hD17 (show vmov V220_Row_Row [1, 3] [1] = true by decide +kernel) (fun D17 N17 F17 A17 H O' eD17 eN17 eF17 eA17 => ?_)
      have O := OUT_trans O O'
      -- Row.addNumber
      have pf17_1_0 : F17 1 0 = (D17 3 : Int) := (eF17 1 0).trans (pm17_1.trans (congrArg (fun q : Nat => (q : Int)) (eD17 3).symm))
      have pf17_2_0 : F17 2 0 = (D17 4 : Int) := ((show F17 2 0 = F16 2 0 from (eF17 2 0))).trans (((((show F16 2 0 = F8 2 0 from (eF16 2 0)))).trans (pf8_2_0)).trans (congrArg (fun q : Nat => (q : Int)) ((show D17 4 = D8 4 from (eD17 4))).symm))
      have r18 : (0 : Int) ≤ m17_1 ∧ m17_1 ≤ 1000000 := by have h1 := H.nle 3 (by decide); have h2 : (N17 3 : Int) = m17_1 := (congrArg (fun q : Nat => (q : Int)) (eN17 3)).trans em17_1; omega
      have r19 : (-2147483648 : Int) ≤ y17_0_1 ∧ y17_0_1 ≤ 2147483647 := by have h1 : (-2147483648 : Int) ≤ F17 1 1 ∧ F17 1 1 ≤ 2147483647 := H.krg 1 1 (by decide); rw [show F17 1 1 = y17_0_1 from ((eF17 1 1).trans ey17_0_1)] at h1; exact h1
      exact hc70  _ _ _ _ _ _ _ _   H O (SD_trans (SD_refl) (SD_glu (ι := [1, 3]) hD17 eD17 (by decide +kernel)) (any_subA (l' := [3]) rfl)) (SD_trans (SD_refl) (SD_glu (ι := [1, 3]) hN17 eN17 (by decide +kernel)) (any_subA (l' := [3]) rfl)) (SF_trans (SF_trans (SF_refl) (SF_glu (ι := [4]) hS16 eF16 (by decide +kernel)) (any_sub (l' := []) rfl)) (SF_glu (ι := [1, 3]) hS17 eF17 (by decide +kernel)) (any_sub (l' := [(1, 0), (1, 1), (1, 2)]) rfl)) (SA_trans (SA_trans (SA_refl) (SA_glu (ι := [4]) hA16 eA16 (by decide +kernel)) (any_subA (l' := []) rfl)) (SA_glu (ι := [1, 3]) hA17 eA17 (by decide +kernel)) (any_subA (l' := [3]) rfl)) (pf17_1_0) (m17_1) ((congrArg (fun q : Nat => (q : Int)) (eN17 3)).trans em17_1) (y17_0_1) (((eF17 1 1).trans ey17_0_1))  (show 0 ≤ (y17_0_1) ∧ (y17_0_1) ≤ (m17_1) ∧ (m17_1) ≤ 65536 by omega)
  refine Ew_of (pc' := 11) (fun _ => x_iload rfl (rk_o (rfl) rfl rfl)) ?_
  refine w_ifeq (t := 23) rfl rfl (show inr (a4) by omega) (fun b20 => ?_) (fun b20 => ?_)
  · refine Ew_of (pc' := 25) (fun _ => x_iload rfl rk_s) ?_
    refine w_i2l rfl (show inr ((u2_1 - a3)) by omega) ?_
    exact hc26 ((u2_1 - a3)) _ _ _ _  (rk_o (rfl) rfl rfl) (rk_o (rfl) rfl rfl) (rk_o (rfl) rfl rfl) (rk_o (rfl) rfl rfl) (rk_s) H O (SF_refl) (SA_refl)     (show inrJ ((u2_1 - a3)) by omega)
  · refine Ew_of (pc' := 16) (fun _ => x_iload rfl rk_s) ?_
    refine Ew_of (pc' := 18) (fun _ => x_ldc (z := -2147483648) rfl (by decide)) ?_
    refine w_ior rfl (fun z21 gz21 => ?_)
    refine w_i2l rfl (show inr (z21) by omega) ?_
    refine Ew_of (pc' := 26) (fun _ => x_goto rfl rfl) ?_
    exact hc26 (z21) _ _ _ _  (rk_o (rfl) rfl rfl) (rk_o (rfl) rfl rfl) (rk_o (rfl) rfl rfl) (rk_o (rfl) rfl rfl) (rk_s) H O (SF_refl) (SA_refl)     (show inrJ (z21) by omega)
abbrev V211 : vV := [(0, 10, [(4, 0), (4, 0), (4, 0), (4, 0), (0, 0), (4, 0), (0, 0), (2, 0), (0, 0)]), (1, 0, []), (0, 7, [(4, 0), (0, 0), (1, 0), (0, 0), (0, 0)]), (1, 0, [])]
/-- Tags.unpackChunk: this, this.in, this.result, this.result.bytes -/
theorem C211 {σE : rS} {D N : Nat → Nat} {F : hF} {A : hA} {d c s : Nat} {Q : wQ} (H : HW V211 σE D N F A) (HT : STC σE) {a1 a2 a3 : Int} (pf1 : F 0 3 = (D 1 : Int)) (pf2 : F 0 5 = (D 2 : Int)) (pf3 : F 2 0 = (D 3 : Int)) (n1 : Int) (en1 : (N 1 : Int) = n1) (n3 : Int) (en3 : (N 3 : Int) = n3) (u0_6 : Int) (eu0_6 : F 0 6 = u0_6) (u2_1 : Int) (eu2_1 : F 2 1 = u2_1) (h0 : inr (a1)) (h1 : inr (a2)) (h2 : inr (a3)) (h3 : 0 ≤ (a1) ∧ 0 ≤ (a3) ∧ (a1) + 4 + (a3) ≤ (n1) ∧ (n1) ≤ 65536) (h4 : 0 ≤ (u2_1) ∧ (u2_1) ≤ (n3) ∧ (n3) ≤ 65536) (h5 : 0 ≤ (u0_6) ∧ (u0_6) ≤ 65536 ∧ (u2_1) ≤ (u0_6)) (k : ∀ (z : Int) (σ : rS) (D' N' : Nat → Nat) (F' : hF) (A' : hA) (c' s' : Nat), HW V211 σ D' N' F' A' → OUT (V211).length D N σE c s D' N' σ c' s' → SD [3] D D' → SD [3] N N' → SF [(0, 7), (0, 8), (2, 0), (2, 1), (2, 2)] F F' → SA [3] A A' → F' 2 0 = (D' 3 : Int) → ∀ m3 : Int, (N' 3 : Int) = m3 → ∀ y2_1 : Int, F' 2 1 = y2_1 → (inr (z)) → (0 ≤ (z) ∧ (z) ≤ 12) → (0 ≤ (y2_1) ∧ (y2_1) ≤ (m3) ∧ (m3) ≤ 65536) → ((u2_1) ≤ (y2_1) ∧ (y2_1) ≤ (u0_6)) → Q (some (I z)) σ c' s') : Ew 211 (d + 4) 0 (rargs 0 [.ref (D 0), I a1, I a2, I a3]) [] σE c s Q := by
  have O := OUT_refl (n := (V211).length) (D := D) (N := N) (σ := σE) (c := c) (s := s)
  have HE := H
  have r1 : (-2147483648 : Int) ≤ u0_6 ∧ u0_6 ≤ 2147483647 := by have h1 : (-2147483648 : Int) ≤ F 0 6 ∧ F 0 6 ≤ 2147483647 := H.krg 0 6 (by decide); rw [show F 0 6 = u0_6 from (eu0_6)] at h1; exact h1
  have r2 : (-2147483648 : Int) ≤ u2_1 ∧ u2_1 ≤ 2147483647 := by have h1 : (-2147483648 : Int) ≤ F 2 1 ∧ F 2 1 ≤ 2147483647 := H.krg 2 1 (by decide); rw [show F 2 1 = u2_1 from (eu2_1)] at h1; exact h1
  have r3 : (0 : Int) ≤ n1 ∧ n1 ≤ 1000000 := by have h1 := H.nle 1 (by decide); have h2 : (N 1 : Int) = n1 := en1; omega
  have r4 : (0 : Int) ≤ n3 ∧ n3 ≤ 1000000 := by have h1 := H.nle 3 (by decide); have h2 : (N 3 : Int) = n3 := en3; omega
  refine Ew_of (pc' := 1) (fun _ => x_iload_n rfl rfl) ?_
  refine Ew_of (pc' := 2) (fun _ => x_iconst rfl) ?_
  refine w_icmplt (t := 16) rfl rfl (show inr (a3) by omega) (show inr (4) by omega) (fun b5 => ?_) (fun b5 => ?_)
  · refine Ew_of (pc' := 17) (fun _ => x_aload_n rfl rfl) ?_
    refine Ew_of (pc' := 19) (fun _ => x_bipush (z := 10) rfl (by decide)) ?_
    refine Ew_of (pc' := 20) (fun _ => x_iload_n rfl rfl) ?_
    have r6 : (-2147483648 : Int) ≤ F 0 8 ∧ F 0 8 ≤ 2147483647 := by have h1 : (-2147483648 : Int) ≤ F 0 8 ∧ F 0 8 ≤ 2147483647 := H.krg 0 8 (by decide); rw [show F 0 8 = F 0 8 from rfl] at h1; exact h1
    refine v_inv H (o := 0) rfl rfl rfl rfl rfl rfl (by rfl) (C203 (D := pul [0] D) (N := pul [0] N) (HW_sub H (VS_of (show vsub V211 V203 [0] = true by decide +kernel))) (F 0 8) (rfl) (show inr (10) by omega) (show inr (a1) by omega) (fun z7 σ7 F7' A7' H' O' hS7 hA7 y7_0_8 ey7_0_8 pz7_0 pz7_1 pz7_2 => ⟨rfl, ?_⟩))
    refine v_back (c := c) (s := s) H (show vsub V211 V203 [0] = true by decide +kernel) H' O' (fun F7 A7 H O' eF7 eA7 => ?_)
    have O := OUT_trans O O'
    -- Tags.fail
    have r8 : (-2147483648 : Int) ≤ y7_0_8 ∧ y7_0_8 ≤ 2147483647 := by have h1 : (-2147483648 : Int) ≤ F7 0 8 ∧ F7 0 8 ≤ 2147483647 := H.krg 0 8 (by decide); rw [show F7 0 8 = y7_0_8 from ((eF7 0 8).trans ey7_0_8)] at h1; exact h1
    exact w_ireturn rfl (k (z7) _ _ _ _ _ _ _ H O (SD_refl) (SD_refl) (SF_trans (SF_refl) (SF_glu (ι := [0]) hS7 eF7 (by decide +kernel)) (any_sub (l' := [(0, 8)]) rfl)) (SA_trans (SA_refl) (SA_glu (ι := [0]) hA7 eA7 (by decide +kernel)) (any_subA (l' := []) rfl)) ((((show F7 2 0 = F 2 0 from (eF7 2 0)))).trans (pf3)) (n3) (en3) (u2_1) ((((show F7 2 1 = F 2 1 from (eF7 2 1))).trans (eu2_1))) (show inr (z7) by omega) (show 0 ≤ (z7) ∧ (z7) ≤ 12 by omega) (show 0 ≤ (u2_1) ∧ (u2_1) ≤ (n3) ∧ (n3) ≤ 65536 by omega) (show (u2_1) ≤ (u2_1) ∧ (u2_1) ≤ (u0_6) by omega))
  · refine Ew_of (pc' := 6) (fun _ => x_iload_n rfl rfl) ?_
    refine Ew_of (pc' := 7) (fun _ => x_iconst rfl) ?_
    have hc24 : ∀ (ls : rO) (σ : rS) (F_c24 : hF) (A_c24 : hA) , rlook ls 0 = some (.ref (D 0)) → rlook ls 1 = some (I (a1)) → rlook ls 2 = some (I (a2)) → rlook ls 3 = some (I (a3)) → HW V211 σ D N F_c24 A_c24 → OUT (V211).length D N σE c s D N σ c s → SF [] F F_c24 → SA [] A A_c24 → (((a2) ≠ (1)) ∨ ((a2) = (1) ∧ (a3) ≤ (65540))) → Ew 211 (d + 4) 24 ls [] σ c s Q := by
     as_aux_lemma =>
      intro  ls σ F_c24 A_c24  lc24_0 lc24_1 lc24_2 lc24_3 H O hS_c24 hA_c24     jc24_0
      refine Ew_of (pc' := 25) (fun _ => x_aload_n rfl lc24_0) ?_
      refine v_g H (o := 0) (v := .ref (D 2)) rfl rfl rfl rfl rfl (vrf (((hS_c24 0 5 rfl)).trans (pf2))) ?_
      refine v_g H (o := 2) (v := I (u2_1)) rfl rfl rfl rfl rfl (congrArg (fun z : Int => I z) (((hS_c24 2 1 rfl).trans (eu2_1)) : F_c24 2 1 = u2_1)) ?_
      refine Ew_of (pc' := 33) (fun _ => x_istore rfl) ?_
      refine Ew_of (pc' := 34) (fun _ => x_aload_n rfl (rk_o (lc24_0) rfl rfl)) ?_
      refine v_g H (o := 0) (v := I (u0_6)) rfl rfl rfl rfl rfl (congrArg (fun z : Int => I z) (((hS_c24 0 6 rfl).trans (eu0_6)) : F_c24 0 6 = u0_6)) ?_
      refine Ew_of (pc' := 39) (fun _ => x_iload rfl rk_s) ?_
      refine w_isub rfl ?_
      refine Ew_of (pc' := 42) (fun _ => x_istore rfl) ?_
      refine Ew_of (pc' := 43) (fun _ => x_iload_n rfl (rk_o (rk_o (lc24_1) rfl rfl) rfl rfl)) ?_
      refine Ew_of (pc' := 44) (fun _ => x_iconst rfl) ?_
      refine w_iadd rfl ?_
      refine Ew_of (pc' := 46) (fun _ => x_iload_n rfl (rk_o (rk_o (lc24_3) rfl rfl) rfl rfl)) ?_
      refine w_iadd rfl ?_
      refine Ew_of (pc' := 49) (fun _ => x_istore rfl) ?_
      have hc133 : ∀ (ls : rO) (σ : rS) (D_c133 N_c133 : Nat → Nat) (c_c133 s_c133 : Nat) (F_c133 : hF) (A_c133 : hA) , rlook ls 0 = some (.ref (D_c133 0)) → rlook ls 1 = some (I (a1)) → rlook ls 4 = some (I (u2_1)) → HW V211 σ D_c133 N_c133 F_c133 A_c133 → OUT (V211).length D N σE c s D_c133 N_c133 σ c_c133 s_c133 → SD [3] D D_c133 → SD [3] N N_c133 → SF [(0, 7), (0, 8), (2, 0), (2, 1), (2, 2)] F_c24 F_c133 → SA [3] A_c24 A_c133 → F_c133 2 0 = (D_c133 3 : Int) → ∀ mc133_3 : Int, (N_c133 3 : Int) = mc133_3 → ∀ yc133_2_1 : Int, F_c133 2 1 = yc133_2_1 → (0 ≤ (yc133_2_1) ∧ (yc133_2_1) ≤ (mc133_3) ∧ (mc133_3) ≤ 65536) → ((u2_1) ≤ (yc133_2_1) ∧ (yc133_2_1) ≤ (u0_6)) → Ew 211 (d + 4) 133 ls [] σ c_c133 s_c133 Q := by
       as_aux_lemma =>
        intro  ls σ D_c133 N_c133 c_c133 s_c133 F_c133 A_c133  lc133_0 lc133_1 lc133_4 H O hD_c133 hN_c133 hS_c133 hA_c133 pmc133_3 mc133_3 emc133_3 yc133_2_1 eyc133_2_1  jc133_0 jc133_1
        have pf_c133_0_3 : F_c133 0 3 = (D_c133 1 : Int) := (hS_c133 0 3 rfl).trans ((((hS_c24 0 3 rfl)).trans (pf1)).trans (congrArg (fun q : Nat => (q : Int)) (hD_c133 1 rfl).symm))
        have pf_c133_0_5 : F_c133 0 5 = (D_c133 2 : Int) := (hS_c133 0 5 rfl).trans ((((hS_c24 0 5 rfl)).trans (pf2)).trans (congrArg (fun q : Nat => (q : Int)) (hD_c133 2 rfl).symm))
        have r9 : (0 : Int) ≤ mc133_3 ∧ mc133_3 ≤ 1000000 := by have h1 := H.nle 3 (by decide); have h2 : (N_c133 3 : Int) = mc133_3 := emc133_3; omega
        have r10 : (-2147483648 : Int) ≤ yc133_2_1 ∧ yc133_2_1 ≤ 2147483647 := by have h1 : (-2147483648 : Int) ≤ F_c133 2 1 ∧ F_c133 2 1 ≤ 2147483647 := H.krg 2 1 (by decide); rw [show F_c133 2 1 = yc133_2_1 from (eyc133_2_1)] at h1; exact h1
        refine Ew_of (pc' := 134) (fun _ => x_aload_n rfl lc133_0) ?_
        refine v_g H (o := 0) (v := .ref (D_c133 2)) rfl rfl rfl rfl rfl (vrf (pf_c133_0_5)) ?_
        refine v_g H (o := 2) (v := .ref (D_c133 3)) rfl rfl rfl rfl rfl (vrf (pmc133_3)) ?_
        refine Ew_of (pc' := 142) (fun _ => x_iload rfl lc133_4) ?_
        refine Ew_of (pc' := 143) (fun _ => x_aload_n rfl lc133_0) ?_
        refine v_g H (o := 0) (v := .ref (D_c133 2)) rfl rfl rfl rfl rfl (vrf (pf_c133_0_5)) ?_
        refine v_g H (o := 2) (v := I (yc133_2_1)) rfl rfl rfl rfl rfl (congrArg (fun z : Int => I z) ((eyc133_2_1) : F_c133 2 1 = yc133_2_1)) ?_
        refine w_stat25 rfl rfl (by rfl) (C53_Br (D := pul [3] D_c133) (N := pul [3] N_c133) (HW_sub H (VS_of (show vsub V211 V53_Br [3] = true by decide +kernel))) (STC_out HT HE O) (mc133_3) (emc133_3) (show inr (u2_1) by omega) (show inr (yc133_2_1) by omega) (show 0 ≤ (u2_1) ∧ (u2_1) ≤ (yc133_2_1) ∧ (yc133_2_1) ≤ (mc133_3) by omega) (fun z11 σ11 F11' A11' H' O' hS11 hA11 pz11_0 => ⟨rfl, ?_⟩))
        refine v_back (c := c_c133) (s := s_c133) H (show vsub V211 V53_Br [3] = true by decide +kernel) H' O' (fun F11 A11 H O' eF11 eA11 => ?_)
        have O := OUT_trans O O'
        -- PackHouse.polynomialSum
        refine w_stat25 rfl rfl (by rfl) (C54 (D := pul [] D_c133) (N := pul [] N_c133) (HW_sub H (VS_of (show vsub V211 V54 [] = true by decide +kernel))) (show inr (z11) by omega) (fun z12 σ12 F12' A12' H' O' hS12 hA12 pz12_0 => ⟨rfl, ?_⟩))
        refine v_back (c := c_c133) (s := s_c133) H (show vsub V211 V54 [] = true by decide +kernel) H' O' (fun F12 A12 H O' eF12 eA12 => ?_)
        have O := OUT_trans O O'
        -- PackHouse.maskedSum
        refine Ew_of (pc' := 157) (fun _ => x_istore rfl) ?_
        refine Ew_of (pc' := 159) (fun _ => x_iload rfl rk_s) ?_
        refine Ew_of (pc' := 160) (fun _ => x_aload_n rfl (rk_o (lc133_0) rfl rfl)) ?_
        refine v_g H (o := 0) (v := .ref (D_c133 1)) rfl rfl rfl rfl rfl (vrf (((((show F12 0 3 = F11 0 3 from (eF12 0 3))).trans ((show F11 0 3 = F_c133 0 3 from (eF11 0 3))))).trans (pf_c133_0_3))) ?_
        refine Ew_of (pc' := 164) (fun _ => x_iload_n rfl (rk_o (lc133_1) rfl rfl)) ?_
        refine Ew_of (pc' := 165) (fun _ => x_iconst rfl) ?_
        refine w_iadd rfl ?_
        refine w_stat25 rfl rfl (by rfl) (C41_Br (D := pul [1] D_c133) (N := pul [1] N_c133) (HW_sub H (VS_of (show vsub V211 V41_Br [1] = true by decide +kernel))) (n1) ((congrArg (fun q : Nat => (q : Int)) (hN_c133 1 rfl)).trans (en1)) (show inr ((a1 + 4)) by omega) (show 0 ≤ ((a1 + 4)) ∧ ((a1 + 4)) + 4 ≤ (n1) by omega) (fun z13 σ13 F13' A13' H' O' hS13 hA13 pz13_0 => ⟨rfl, ?_⟩))
        refine v_back (c := c_c133) (s := s_c133) H (show vsub V211 V41_Br [1] = true by decide +kernel) H' O' (fun F13 A13 H O' eF13 eA13 => ?_)
        have O := OUT_trans O O'
        -- PackHouse.word
        refine w_icmpne (t := 176) rfl rfl (show inr (z12) by omega) (show inr (z13) by omega) (fun b14 => ?_) (fun b14 => ?_)
        · refine Ew_of (pc' := 177) (fun _ => x_aload_n rfl (rk_o (lc133_0) rfl rfl)) ?_
          refine Ew_of (pc' := 179) (fun _ => x_bipush (z := 11) rfl (by decide)) ?_
          refine Ew_of (pc' := 180) (fun _ => x_iload_n rfl (rk_o (lc133_1) rfl rfl)) ?_
          refine Ew_of (pc' := 181) (fun _ => x_iconst rfl) ?_
          refine w_iadd rfl ?_
          have r15 : (-2147483648 : Int) ≤ F_c133 0 8 ∧ F_c133 0 8 ≤ 2147483647 := by have h1 : (-2147483648 : Int) ≤ F13 0 8 ∧ F13 0 8 ≤ 2147483647 := H.krg 0 8 (by decide); rw [show F13 0 8 = F_c133 0 8 from ((((show F13 0 8 = F12 0 8 from (eF13 0 8))).trans ((show F12 0 8 = F11 0 8 from (eF12 0 8)))).trans ((show F11 0 8 = F_c133 0 8 from (eF11 0 8))))] at h1; exact h1
          refine v_inv H (o := 0) rfl rfl rfl rfl rfl rfl (by rfl) (C203 (D := pul [0] D_c133) (N := pul [0] N_c133) (HW_sub H (VS_of (show vsub V211 V203 [0] = true by decide +kernel))) (F_c133 0 8) (((((show F13 0 8 = F12 0 8 from (eF13 0 8))).trans ((show F12 0 8 = F11 0 8 from (eF12 0 8)))).trans ((show F11 0 8 = F_c133 0 8 from (eF11 0 8))))) (show inr (11) by omega) (show inr ((a1 + 4)) by omega) (fun z16 σ16 F16' A16' H' O' hS16 hA16 y16_0_8 ey16_0_8 pz16_0 pz16_1 pz16_2 => ⟨rfl, ?_⟩))
          refine v_back (c := c_c133) (s := s_c133) H (show vsub V211 V203 [0] = true by decide +kernel) H' O' (fun F16 A16 H O' eF16 eA16 => ?_)
          have O := OUT_trans O O'
          -- Tags.fail
          have r17 : (-2147483648 : Int) ≤ y16_0_8 ∧ y16_0_8 ≤ 2147483647 := by have h1 : (-2147483648 : Int) ≤ F16 0 8 ∧ F16 0 8 ≤ 2147483647 := H.krg 0 8 (by decide); rw [show F16 0 8 = y16_0_8 from ((eF16 0 8).trans ey16_0_8)] at h1; exact h1
          exact w_ireturn rfl (k (z16) _ _ _ _ _ _ _ H O (SD_trans (SD_refl) hD_c133 (any_subA rfl)) (SD_trans (SD_refl) hN_c133 (any_subA rfl)) (SF_trans (SF_trans (SF_trans (SF_trans (SF_trans (SF_trans (SF_refl) hS_c24 (any_sub rfl)) hS_c133 (any_sub rfl)) (SF_glu (ι := [3]) hS11 eF11 (by decide +kernel)) (any_sub (l' := []) rfl)) (SF_glu (ι := []) hS12 eF12 (by decide +kernel)) (any_sub (l' := []) rfl)) (SF_glu (ι := [1]) hS13 eF13 (by decide +kernel)) (any_sub (l' := []) rfl)) (SF_glu (ι := [0]) hS16 eF16 (by decide +kernel)) (any_sub (l' := [(0, 8)]) rfl)) (SA_trans (SA_trans (SA_trans (SA_trans (SA_trans (SA_trans (SA_refl) hA_c24 (any_subA rfl)) hA_c133 (any_subA rfl)) (SA_glu (ι := [3]) hA11 eA11 (by decide +kernel)) (any_subA (l' := []) rfl)) (SA_glu (ι := []) hA12 eA12 (by decide +kernel)) (any_subA (l' := []) rfl)) (SA_glu (ι := [1]) hA13 eA13 (by decide +kernel)) (any_subA (l' := []) rfl)) (SA_glu (ι := [0]) hA16 eA16 (by decide +kernel)) (any_subA (l' := []) rfl)) (((((((show F16 2 0 = F13 2 0 from (eF16 2 0))).trans ((show F13 2 0 = F12 2 0 from (eF13 2 0)))).trans ((show F12 2 0 = F11 2 0 from (eF12 2 0)))).trans ((show F11 2 0 = F_c133 2 0 from (eF11 2 0))))).trans (pmc133_3)) (mc133_3) (emc133_3) (yc133_2_1) (((((((show F16 2 1 = F13 2 1 from (eF16 2 1))).trans ((show F13 2 1 = F12 2 1 from (eF13 2 1)))).trans ((show F12 2 1 = F11 2 1 from (eF12 2 1)))).trans ((show F11 2 1 = F_c133 2 1 from (eF11 2 1)))).trans (eyc133_2_1))) (show inr (z16) by omega) (show 0 ≤ (z16) ∧ (z16) ≤ 12 by omega) (show 0 ≤ (yc133_2_1) ∧ (yc133_2_1) ≤ (mc133_3) ∧ (mc133_3) ≤ 65536 by omega) (show (u2_1) ≤ (yc133_2_1) ∧ (yc133_2_1) ≤ (u0_6) by omega))
        · refine Ew_of (pc' := 173) (fun _ => x_iconst rfl) ?_
          refine Ew_of (pc' := 185) (fun _ => x_goto rfl rfl) ?_
          exact w_ireturn rfl (k (0) _ _ _ _ _ _ _ H O (SD_trans (SD_refl) hD_c133 (any_subA rfl)) (SD_trans (SD_refl) hN_c133 (any_subA rfl)) (SF_trans (SF_trans (SF_trans (SF_trans (SF_trans (SF_refl) hS_c24 (any_sub rfl)) hS_c133 (any_sub rfl)) (SF_glu (ι := [3]) hS11 eF11 (by decide +kernel)) (any_sub (l' := []) rfl)) (SF_glu (ι := []) hS12 eF12 (by decide +kernel)) (any_sub (l' := []) rfl)) (SF_glu (ι := [1]) hS13 eF13 (by decide +kernel)) (any_sub (l' := []) rfl)) (SA_trans (SA_trans (SA_trans (SA_trans (SA_trans (SA_refl) hA_c24 (any_subA rfl)) hA_c133 (any_subA rfl)) (SA_glu (ι := [3]) hA11 eA11 (by decide +kernel)) (any_subA (l' := []) rfl)) (SA_glu (ι := []) hA12 eA12 (by decide +kernel)) (any_subA (l' := []) rfl)) (SA_glu (ι := [1]) hA13 eA13 (by decide +kernel)) (any_subA (l' := []) rfl)) ((((((show F13 2 0 = F12 2 0 from (eF13 2 0))).trans ((show F12 2 0 = F11 2 0 from (eF12 2 0)))).trans ((show F11 2 0 = F_c133 2 0 from (eF11 2 0))))).trans (pmc133_3)) (mc133_3) (emc133_3) (yc133_2_1) ((((((show F13 2 1 = F12 2 1 from (eF13 2 1))).trans ((show F12 2 1 = F11 2 1 from (eF12 2 1)))).trans ((show F11 2 1 = F_c133 2 1 from (eF11 2 1)))).trans (eyc133_2_1))) (show inr (0) by omega) (show 0 ≤ (0) ∧ (0) ≤ 12 by omega) (show 0 ≤ (yc133_2_1) ∧ (yc133_2_1) ≤ (mc133_3) ∧ (mc133_3) ≤ 65536 by omega) (show (u2_1) ≤ (yc133_2_1) ∧ (yc133_2_1) ≤ (u0_6) by omega))
      refine Ew_of (pc' := 50) (fun _ => x_iload_n rfl (rk_o (rk_o (rk_o (lc24_2) rfl rfl) rfl rfl) rfl rfl)) ?_
      refine w_ifne (t := 94) rfl rfl (show inr (a2) by omega) (fun b18 => ?_) (fun b18 => ?_)
      · refine Ew_of (pc' := 95) (fun _ => x_iload_n rfl (rk_o (rk_o (rk_o (lc24_3) rfl rfl) rfl rfl) rfl rfl)) ?_
        refine Ew_of (pc' := 96) (fun _ => x_iconst rfl) ?_
        refine w_isub rfl ?_
        refine Ew_of (pc' := 99) (fun _ => x_iload rfl (rk_o (rk_s) rfl rfl)) ?_
        refine w_icmple (t := 115) rfl rfl (show inr ((a3 - 4)) by omega) (show inr ((u0_6 - u2_1)) by omega) (fun b19 => ?_) (fun b19 => ?_)
        · refine Ew_of (pc' := 116) (fun _ => x_aload_n rfl (rk_o (rk_o (rk_o (lc24_0) rfl rfl) rfl rfl) rfl rfl)) ?_
          refine v_g H (o := 0) (v := .ref (D 2)) rfl rfl rfl rfl rfl (vrf (((hS_c24 0 5 rfl)).trans (pf2))) ?_
          refine Ew_of (pc' := 120) (fun _ => x_aload_n rfl (rk_o (rk_o (rk_o (lc24_0) rfl rfl) rfl rfl) rfl rfl)) ?_
          refine v_g H (o := 0) (v := .ref (D 1)) rfl rfl rfl rfl rfl (vrf (((hS_c24 0 3 rfl)).trans (pf1))) ?_
          refine Ew_of (pc' := 124) (fun _ => x_iload_n rfl (rk_o (rk_o (rk_o (lc24_1) rfl rfl) rfl rfl) rfl rfl)) ?_
          refine Ew_of (pc' := 126) (fun _ => x_bipush (z := 8) rfl (by decide)) ?_
          refine w_iadd rfl ?_
          refine Ew_of (pc' := 128) (fun _ => x_iload_n rfl (rk_o (rk_o (rk_o (lc24_3) rfl rfl) rfl rfl) rfl rfl)) ?_
          refine Ew_of (pc' := 129) (fun _ => x_iconst rfl) ?_
          refine w_isub rfl ?_
          refine v_inv H (o := 2) rfl rfl rfl rfl rfl rfl (by rfl) (C161_Br (D := pul [2, 1, 3] D) (N := pul [2, 1, 3] N) (HW_sub H (VS_of (show vsub V211 V161_Br [2, 1, 3] = true by decide +kernel))) (((hS_c24 2 0 rfl)).trans (pf3)) (n1) (en1) (n3) (en3) (u2_1) (((hS_c24 2 1 rfl).trans (eu2_1))) (A 3) (funext (hA_c24 3 rfl)) (show inr ((a1 + 8)) by omega) (show inr ((a3 - 4)) by omega) (show 0 ≤ (u2_1) ∧ (u2_1) ≤ (n3) ∧ (n3) ≤ 65536 by omega) (show ((a3 - 4)) < 0 ∨ 0 ≤ ((a1 + 8)) ∧ ((a1 + 8)) + ((a3 - 4)) ≤ (n1) by omega) (fun σ20 D20' N20' F20' A20' c20 s20 H' O' hD20 hN20 hS20 hA20 pm20_2 m20_2 em20_2 y20_0_1 ey20_0_1 w20_2 ew20_2 pz20_0 pz20_1 pz20_2 => ⟨rfl, ?_⟩))
          refine v_backM (c := c) (s := s) H (show vsub V211 V161_Br [2, 1, 3] = true by decide +kernel) H' O' hD20 (show vmov V211 [2, 1, 3] [2] = true by decide +kernel) (fun D20 N20 F20 A20 H O' eD20 eN20 eF20 eA20 => ?_)
          have O := OUT_trans O O'
          -- Row.addPart
          have pf20_0_3 : F20 0 3 = (D20 1 : Int) := ((show F20 0 3 = F_c24 0 3 from (eF20 0 3))).trans ((((hS_c24 0 3 rfl)).trans (pf1)).trans (congrArg (fun q : Nat => (q : Int)) ((show D20 1 = D 1 from (eD20 1).trans (hD20 1 rfl))).symm))
          have pf20_0_5 : F20 0 5 = (D20 2 : Int) := ((show F20 0 5 = F_c24 0 5 from (eF20 0 5))).trans ((((hS_c24 0 5 rfl)).trans (pf2)).trans (congrArg (fun q : Nat => (q : Int)) ((show D20 2 = D 2 from (eD20 2).trans (hD20 0 rfl))).symm))
          have pf20_2_0 : F20 2 0 = (D20 3 : Int) := (eF20 2 0).trans (pm20_2.trans (congrArg (fun q : Nat => (q : Int)) (eD20 3).symm))
          have r21 : (0 : Int) ≤ m20_2 ∧ m20_2 ≤ 1000000 := by have h1 := H.nle 3 (by decide); have h2 : (N20 3 : Int) = m20_2 := (congrArg (fun q : Nat => (q : Int)) (eN20 3)).trans em20_2; omega
          have r22 : (-2147483648 : Int) ≤ y20_0_1 ∧ y20_0_1 ≤ 2147483647 := by have h1 : (-2147483648 : Int) ≤ F20 2 1 ∧ F20 2 1 ≤ 2147483647 := H.krg 2 1 (by decide); rw [show F20 2 1 = y20_0_1 from ((eF20 2 1).trans ey20_0_1)] at h1; exact h1
          exact hc133  _ _ _ _ _ _ _ _  ((rk_o (rk_o (rk_o (lc24_0) rfl rfl) rfl rfl) rfl rfl).trans (congrArg (fun q : Nat => some (Value.ref q)) (((show D20 0 = D 0 from (eD20 0)))).symm)) (rk_o (rk_o (rk_o (lc24_1) rfl rfl) rfl rfl) rfl rfl) (rk_o (rk_o (rk_s) rfl rfl) rfl rfl) H O (SD_trans (SD_refl) (SD_glu (ι := [2, 1, 3]) hD20 eD20 (by decide +kernel)) (any_subA (l' := [3]) rfl)) (SD_trans (SD_refl) (SD_glu (ι := [2, 1, 3]) hN20 eN20 (by decide +kernel)) (any_subA (l' := [3]) rfl)) (SF_trans (SF_refl) (SF_glu (ι := [2, 1, 3]) hS20 eF20 (by decide +kernel)) (any_sub (l' := [(2, 0), (2, 1), (2, 2)]) rfl)) (SA_trans (SA_refl) (SA_glu (ι := [2, 1, 3]) hA20 eA20 (by decide +kernel)) (any_subA (l' := [3]) rfl)) (pf20_2_0) (m20_2) ((congrArg (fun q : Nat => (q : Int)) (eN20 3)).trans em20_2) (y20_0_1) (((eF20 2 1).trans ey20_0_1))  (show 0 ≤ (y20_0_1) ∧ (y20_0_1) ≤ (m20_2) ∧ (m20_2) ≤ 65536 by omega) (show (u2_1) ≤ (y20_0_1) ∧ (y20_0_1) ≤ (u0_6) by omega)
        · refine Ew_of (pc' := 103) (fun _ => x_aload_n rfl (rk_o (rk_o (rk_o (lc24_0) rfl rfl) rfl rfl) rfl rfl)) ?_
          refine Ew_of (pc' := 104) (fun _ => x_iconst rfl) ?_
          refine Ew_of (pc' := 105) (fun _ => x_iload_n rfl (rk_o (rk_o (rk_o (lc24_1) rfl rfl) rfl rfl) rfl rfl)) ?_
          refine Ew_of (pc' := 107) (fun _ => x_bipush (z := 8) rfl (by decide)) ?_
          refine w_iadd rfl ?_
          refine Ew_of (pc' := 110) (fun _ => x_iload rfl (rk_o (rk_s) rfl rfl)) ?_
          refine w_iadd rfl ?_
          have r23 : (-2147483648 : Int) ≤ F 0 8 ∧ F 0 8 ≤ 2147483647 := by have h1 : (-2147483648 : Int) ≤ F_c24 0 8 ∧ F_c24 0 8 ≤ 2147483647 := H.krg 0 8 (by decide); rw [show F_c24 0 8 = F 0 8 from (hS_c24 0 8 rfl)] at h1; exact h1
          refine v_inv H (o := 0) rfl rfl rfl rfl rfl rfl (by rfl) (C203 (D := pul [0] D) (N := pul [0] N) (HW_sub H (VS_of (show vsub V211 V203 [0] = true by decide +kernel))) (F 0 8) ((hS_c24 0 8 rfl)) (show inr (3) by omega) (show inr (((a1 + 8) + (u0_6 - u2_1))) by omega) (fun z24 σ24 F24' A24' H' O' hS24 hA24 y24_0_8 ey24_0_8 pz24_0 pz24_1 pz24_2 => ⟨rfl, ?_⟩))
          refine v_back (c := c) (s := s) H (show vsub V211 V203 [0] = true by decide +kernel) H' O' (fun F24 A24 H O' eF24 eA24 => ?_)
          have O := OUT_trans O O'
          -- Tags.fail
          have r25 : (-2147483648 : Int) ≤ y24_0_8 ∧ y24_0_8 ≤ 2147483647 := by have h1 : (-2147483648 : Int) ≤ F24 0 8 ∧ F24 0 8 ≤ 2147483647 := H.krg 0 8 (by decide); rw [show F24 0 8 = y24_0_8 from ((eF24 0 8).trans ey24_0_8)] at h1; exact h1
          exact w_ireturn rfl (k (z24) _ _ _ _ _ _ _ H O (SD_refl) (SD_refl) (SF_trans (SF_trans (SF_refl) hS_c24 (any_sub rfl)) (SF_glu (ι := [0]) hS24 eF24 (by decide +kernel)) (any_sub (l' := [(0, 8)]) rfl)) (SA_trans (SA_trans (SA_refl) hA_c24 (any_subA rfl)) (SA_glu (ι := [0]) hA24 eA24 (by decide +kernel)) (any_subA (l' := []) rfl)) (((((show F24 2 0 = F_c24 2 0 from (eF24 2 0))).trans (hS_c24 2 0 rfl))).trans (pf3)) (n3) (en3) (u2_1) (((((show F24 2 1 = F_c24 2 1 from (eF24 2 1))).trans (hS_c24 2 1 rfl)).trans (eu2_1))) (show inr (z24) by omega) (show 0 ≤ (z24) ∧ (z24) ≤ 12 by omega) (show 0 ≤ (u2_1) ∧ (u2_1) ≤ (n3) ∧ (n3) ≤ 65536 by omega) (show (u2_1) ≤ (u2_1) ∧ (u2_1) ≤ (u0_6) by omega))
      · refine Ew_of (pc' := 54) (fun _ => x_aload_n rfl (rk_o (rk_o (rk_o (lc24_0) rfl rfl) rfl rfl) rfl rfl)) ?_
        refine Ew_of (pc' := 55) (fun _ => x_iload_n rfl (rk_o (rk_o (rk_o (lc24_1) rfl rfl) rfl rfl) rfl rfl)) ?_
        refine Ew_of (pc' := 57) (fun _ => x_bipush (z := 8) rfl (by decide)) ?_
        refine w_iadd rfl ?_
        refine Ew_of (pc' := 60) (fun _ => x_iload rfl rk_s) ?_
        refine Ew_of (pc' := 62) (fun _ => x_ldc (z := 65536) rfl (by decide)) ?_
        refine Ew_of (pc' := 64) (fun _ => x_iload rfl (rk_o (rk_s) rfl rfl)) ?_
        refine v_min rfl rfl (show inr (65536) by omega) (show inr ((u0_6 - u2_1)) by omega) (fun z26 gz26 => ?_)
        refine v_inv H (o := 0) rfl rfl rfl rfl rfl rfl (by rfl) (C206 (D := pul [0, 1, 2, 3] D) (N := pul [0, 1, 2, 3] N) (HW_sub H (VS_of (show vsub V211 V206 [0, 1, 2, 3] = true by decide +kernel))) (((hS_c24 0 3 rfl)).trans (pf1)) (((hS_c24 0 5 rfl)).trans (pf2)) (((hS_c24 2 0 rfl)).trans (pf3)) (n1) (en1) (n3) (en3) (u2_1) (((hS_c24 2 1 rfl).trans (eu2_1))) (show inr ((a1 + 8)) by omega) (show inr (((a1 + 4) + a3)) by omega) (show inr (z26) by omega) (show 0 ≤ ((a1 + 8)) ∧ ((a1 + 8)) ≤ (((a1 + 4) + a3)) ∧ (((a1 + 4) + a3)) ≤ (n1) ∧ (n1) ≤ 65536 by omega) (show 0 ≤ (u2_1) ∧ (u2_1) ≤ (n3) ∧ (n3) ≤ 65536 by omega) (show (z26) ≤ 65536 by omega) (fun z27 σ27 D27' N27' F27' A27' c27 s27 H' O' hD27 hN27 hS27 hA27 pm27_3 m27_3 em27_3 y27_2_1 ey27_2_1 pz27_0 pz27_1 pz27_2 pz27_3 pz27_4 => ⟨rfl, ?_⟩))
        refine v_backM (c := c) (s := s) H (show vsub V211 V206 [0, 1, 2, 3] = true by decide +kernel) H' O' hD27 (show vmov V211 [0, 1, 2, 3] [3] = true by decide +kernel) (fun D27 N27 F27 A27 H O' eD27 eN27 eF27 eA27 => ?_)
        have O := OUT_trans O O'
        -- Tags.unpackBlock
        have pf27_0_3 : F27 0 3 = (D27 1 : Int) := ((show F27 0 3 = F_c24 0 3 from (eF27 0 3).trans (hS27 0 3 rfl))).trans ((((hS_c24 0 3 rfl)).trans (pf1)).trans (congrArg (fun q : Nat => (q : Int)) ((show D27 1 = D 1 from (eD27 1).trans (hD27 1 rfl))).symm))
        have pf27_0_5 : F27 0 5 = (D27 2 : Int) := ((show F27 0 5 = F_c24 0 5 from (eF27 0 5).trans (hS27 0 5 rfl))).trans ((((hS_c24 0 5 rfl)).trans (pf2)).trans (congrArg (fun q : Nat => (q : Int)) ((show D27 2 = D 2 from (eD27 2).trans (hD27 2 rfl))).symm))
        have pf27_2_0 : F27 2 0 = (D27 3 : Int) := (eF27 2 0).trans (pm27_3.trans (congrArg (fun q : Nat => (q : Int)) (eD27 3).symm))
        have r28 : (0 : Int) ≤ m27_3 ∧ m27_3 ≤ 1000000 := by have h1 := H.nle 3 (by decide); have h2 : (N27 3 : Int) = m27_3 := (congrArg (fun q : Nat => (q : Int)) (eN27 3)).trans em27_3; omega
        have r29 : (-2147483648 : Int) ≤ y27_2_1 ∧ y27_2_1 ≤ 2147483647 := by have h1 : (-2147483648 : Int) ≤ F27 2 1 ∧ F27 2 1 ≤ 2147483647 := H.krg 2 1 (by decide); rw [show F27 2 1 = y27_2_1 from ((eF27 2 1).trans ey27_2_1)] at h1; exact h1
        refine Ew_of (pc' := 72) (fun _ => x_istore rfl) ?_
        refine Ew_of (pc' := 74) (fun _ => x_iload rfl rk_s) ?_
        refine w_ifeq (t := 91) rfl rfl (show inr (z27) by omega) (fun b30 => ?_) (fun b30 => ?_)
        · refine Ew_of (pc' := 133) (fun _ => x_goto rfl rfl) ?_
          exact hc133  _ _ _ _ _ _ _ _  ((rk_o (rk_o (rk_o (rk_o (lc24_0) rfl rfl) rfl rfl) rfl rfl) rfl rfl).trans (congrArg (fun q : Nat => some (Value.ref q)) (((show D27 0 = D 0 from (eD27 0).trans (hD27 0 rfl)))).symm)) (rk_o (rk_o (rk_o (rk_o (lc24_1) rfl rfl) rfl rfl) rfl rfl) rfl rfl) (rk_o (rk_o (rk_o (rk_s) rfl rfl) rfl rfl) rfl rfl) H O (SD_trans (SD_refl) (SD_glu (ι := [0, 1, 2, 3]) hD27 eD27 (by decide +kernel)) (any_subA (l' := [3]) rfl)) (SD_trans (SD_refl) (SD_glu (ι := [0, 1, 2, 3]) hN27 eN27 (by decide +kernel)) (any_subA (l' := [3]) rfl)) (SF_trans (SF_refl) (SF_glu (ι := [0, 1, 2, 3]) hS27 eF27 (by decide +kernel)) (any_sub (l' := [(0, 7), (0, 8), (2, 0), (2, 1), (2, 2)]) rfl)) (SA_trans (SA_refl) (SA_glu (ι := [0, 1, 2, 3]) hA27 eA27 (by decide +kernel)) (any_subA (l' := [3]) rfl)) (pf27_2_0) (m27_3) ((congrArg (fun q : Nat => (q : Int)) (eN27 3)).trans em27_3) (y27_2_1) (((eF27 2 1).trans ey27_2_1))  (show 0 ≤ (y27_2_1) ∧ (y27_2_1) ≤ (m27_3) ∧ (m27_3) ≤ 65536 by omega) (show (u2_1) ≤ (y27_2_1) ∧ (y27_2_1) ≤ (u0_6) by omega)
        · refine Ew_of (pc' := 79) (fun _ => x_iload rfl rk_s) ?_
          refine Ew_of (pc' := 80) (fun _ => x_iconst rfl) ?_
          refine w_icmpne (t := 88) rfl rfl (show inr (z27) by omega) (show inr (1) by omega) (fun b31 => ?_) (fun b31 => ?_)
          · refine Ew_of (pc' := 90) (fun _ => x_iload rfl rk_s) ?_
            exact w_ireturn rfl (k (z27) _ _ _ _ _ _ _ H O (SD_trans (SD_refl) (SD_glu (ι := [0, 1, 2, 3]) hD27 eD27 (by decide +kernel)) (any_subA (l' := [3]) rfl)) (SD_trans (SD_refl) (SD_glu (ι := [0, 1, 2, 3]) hN27 eN27 (by decide +kernel)) (any_subA (l' := [3]) rfl)) (SF_trans (SF_trans (SF_refl) hS_c24 (any_sub rfl)) (SF_glu (ι := [0, 1, 2, 3]) hS27 eF27 (by decide +kernel)) (any_sub (l' := [(0, 7), (0, 8), (2, 0), (2, 1), (2, 2)]) rfl)) (SA_trans (SA_trans (SA_refl) hA_c24 (any_subA rfl)) (SA_glu (ι := [0, 1, 2, 3]) hA27 eA27 (by decide +kernel)) (any_subA (l' := [3]) rfl)) (pf27_2_0) (m27_3) ((congrArg (fun q : Nat => (q : Int)) (eN27 3)).trans em27_3) (y27_2_1) (((eF27 2 1).trans ey27_2_1)) (show inr (z27) by omega) (show 0 ≤ (z27) ∧ (z27) ≤ 12 by omega) (show 0 ≤ (y27_2_1) ∧ (y27_2_1) ≤ (m27_3) ∧ (m27_3) ≤ 65536 by omega) (show (u2_1) ≤ (y27_2_1) ∧ (y27_2_1) ≤ (u0_6) by omega))
          · refine Ew_of (pc' := 85) (fun _ => x_bipush (z := 12) rfl (by decide)) ?_
            refine Ew_of (pc' := 90) (fun _ => x_goto rfl rfl) ?_
            exact w_ireturn rfl (k (12) _ _ _ _ _ _ _ H O (SD_trans (SD_refl) (SD_glu (ι := [0, 1, 2, 3]) hD27 eD27 (by decide +kernel)) (any_subA (l' := [3]) rfl)) (SD_trans (SD_refl) (SD_glu (ι := [0, 1, 2, 3]) hN27 eN27 (by decide +kernel)) (any_subA (l' := [3]) rfl)) (SF_trans (SF_trans (SF_refl) hS_c24 (any_sub rfl)) (SF_glu (ι := [0, 1, 2, 3]) hS27 eF27 (by decide +kernel)) (any_sub (l' := [(0, 7), (0, 8), (2, 0), (2, 1), (2, 2)]) rfl)) (SA_trans (SA_trans (SA_refl) hA_c24 (any_subA rfl)) (SA_glu (ι := [0, 1, 2, 3]) hA27 eA27 (by decide +kernel)) (any_subA (l' := [3]) rfl)) (pf27_2_0) (m27_3) ((congrArg (fun q : Nat => (q : Int)) (eN27 3)).trans em27_3) (y27_2_1) (((eF27 2 1).trans ey27_2_1)) (show inr (12) by omega) (show 0 ≤ (12) ∧ (12) ≤ 12 by omega) (show 0 ≤ (y27_2_1) ∧ (y27_2_1) ≤ (m27_3) ∧ (m27_3) ≤ 65536 by omega) (show (u2_1) ≤ (y27_2_1) ∧ (y27_2_1) ≤ (u0_6) by omega))
    refine w_icmpne (t := 24) rfl rfl (show inr (a2) by omega) (show inr (1) by omega) (fun b32 => ?_) (fun b32 => ?_)
    · exact hc24  _ _ _ _  (rfl) (rfl) (rfl) (rfl) H O (SF_refl) (SA_refl)     (show ((a2) ≠ (1)) ∨ ((a2) = (1) ∧ (a3) ≤ (65540)) by omega)
    · refine Ew_of (pc' := 11) (fun _ => x_iload_n rfl rfl) ?_
      refine Ew_of (pc' := 13) (fun _ => x_ldc (z := 65540) rfl (by decide)) ?_
      refine w_icmple (t := 24) rfl rfl (show inr (a3) by omega) (show inr (65540) by omega) (fun b33 => ?_) (fun b33 => ?_)
      · exact hc24  _ _ _ _  (rfl) (rfl) (rfl) (rfl) H O (SF_refl) (SA_refl)     (show ((a2) ≠ (1)) ∨ ((a2) = (1) ∧ (a3) ≤ (65540)) by omega)
      · refine Ew_of (pc' := 17) (fun _ => x_aload_n rfl rfl) ?_
        refine Ew_of (pc' := 19) (fun _ => x_bipush (z := 10) rfl (by decide)) ?_
        refine Ew_of (pc' := 20) (fun _ => x_iload_n rfl rfl) ?_
        have r34 : (-2147483648 : Int) ≤ F 0 8 ∧ F 0 8 ≤ 2147483647 := by have h1 : (-2147483648 : Int) ≤ F 0 8 ∧ F 0 8 ≤ 2147483647 := H.krg 0 8 (by decide); rw [show F 0 8 = F 0 8 from rfl] at h1; exact h1
        refine v_inv H (o := 0) rfl rfl rfl rfl rfl rfl (by rfl) (C203 (D := pul [0] D) (N := pul [0] N) (HW_sub H (VS_of (show vsub V211 V203 [0] = true by decide +kernel))) (F 0 8) (rfl) (show inr (10) by omega) (show inr (a1) by omega) (fun z35 σ35 F35' A35' H' O' hS35 hA35 y35_0_8 ey35_0_8 pz35_0 pz35_1 pz35_2 => ⟨rfl, ?_⟩))
        refine v_back (c := c) (s := s) H (show vsub V211 V203 [0] = true by decide +kernel) H' O' (fun F35 A35 H O' eF35 eA35 => ?_)
        have O := OUT_trans O O'
        -- Tags.fail
        have r36 : (-2147483648 : Int) ≤ y35_0_8 ∧ y35_0_8 ≤ 2147483647 := by have h1 : (-2147483648 : Int) ≤ F35 0 8 ∧ F35 0 8 ≤ 2147483647 := H.krg 0 8 (by decide); rw [show F35 0 8 = y35_0_8 from ((eF35 0 8).trans ey35_0_8)] at h1; exact h1
        exact w_ireturn rfl (k (z35) _ _ _ _ _ _ _ H O (SD_refl) (SD_refl) (SF_trans (SF_refl) (SF_glu (ι := [0]) hS35 eF35 (by decide +kernel)) (any_sub (l' := [(0, 8)]) rfl)) (SA_trans (SA_refl) (SA_glu (ι := [0]) hA35 eA35 (by decide +kernel)) (any_subA (l' := []) rfl)) ((((show F35 2 0 = F 2 0 from (eF35 2 0)))).trans (pf3)) (n3) (en3) (u2_1) ((((show F35 2 1 = F 2 1 from (eF35 2 1))).trans (eu2_1))) (show inr (z35) by omega) (show 0 ≤ (z35) ∧ (z35) ≤ 12 by omega) (show 0 ≤ (u2_1) ∧ (u2_1) ≤ (n3) ∧ (n3) ≤ 65536 by omega) (show (u2_1) ≤ (u2_1) ∧ (u2_1) ≤ (u0_6) by omega))
abbrev V210_Row_Row : vV := [(0, 10, [(4, 0), (4, 0), (4, 0), (4, 0), (0, 0), (4, 0), (0, 0), (2, 0), (0, 0)]), (0, 7, [(4, 0), (0, 0), (1, 0), (0, 0), (0, 0)]), (0, 7, [(4, 0), (0, 0), (1, 0), (0, 0), (0, 0)]), (1, 0, []), (1, 0, [])]
/-- Tags.unpackStream: this, #1, #2, #1.bytes, #2.bytes -/
theorem C210_Row_Row {σE : rS} {D N : Nat → Nat} {F : hF} {A : hA} {d c s : Nat} {Q : wQ} (H : HW V210_Row_Row σE D N F A) (HT : STC σE) {a3 : Int} (pf3 : F 1 0 = (D 3 : Int)) (pf4 : F 2 0 = (D 4 : Int)) (n3 : Int) (en3 : (N 3 : Int) = n3) (n4 : Int) (en4 : (N 4 : Int) = n4) (u1_1 : Int) (eu1_1 : F 1 1 = u1_1) (u2_1 : Int) (eu2_1 : F 2 1 = u2_1) (h0 : inr (a3)) (h1 : 0 ≤ (u1_1) ∧ (u1_1) ≤ (n3) ∧ (n3) ≤ 65536) (h2 : 0 ≤ (u2_1) ∧ (u2_1) ≤ (n4) ∧ (n4) ≤ 65536) (h3 : 0 ≤ (a3) ∧ (a3) ≤ 65536) (h4 : (u2_1) ≤ (a3)) (k : ∀ (z : Int) (σ : rS) (D' N' : Nat → Nat) (F' : hF) (A' : hA) (c' s' : Nat), HW V210_Row_Row σ D' N' F' A' → OUT (V210_Row_Row).length D N σE c s D' N' σ c' s' → SD [4] D D' → SD [4] N N' → SF [(0, 3), (0, 4), (0, 5), (0, 6), (0, 7), (0, 8), (2, 0), (2, 1), (2, 2)] F F' → SA [4] A A' → F' 2 0 = (D' 4 : Int) → ∀ m4 : Int, (N' 4 : Int) = m4 → ∀ y2_1 : Int, F' 2 1 = y2_1 → (inr (z)) → (0 ≤ (z) ∧ (z) ≤ 12) → (0 ≤ (y2_1) ∧ (y2_1) ≤ (m4) ∧ (m4) ≤ 65536) → Q (some (I z)) σ c' s') : Ew 210 (d + 5) 0 (rargs 0 [.ref (D 0), .ref (D 1), .ref (D 2), I a3]) [] σE c s Q := by
  have O := OUT_refl (n := (V210_Row_Row).length) (D := D) (N := N) (σ := σE) (c := c) (s := s)
  have HE := H
  have r1 : (-2147483648 : Int) ≤ u1_1 ∧ u1_1 ≤ 2147483647 := by have h1 : (-2147483648 : Int) ≤ F 1 1 ∧ F 1 1 ≤ 2147483647 := H.krg 1 1 (by decide); rw [show F 1 1 = u1_1 from (eu1_1)] at h1; exact h1
  have r2 : (-2147483648 : Int) ≤ u2_1 ∧ u2_1 ≤ 2147483647 := by have h1 : (-2147483648 : Int) ≤ F 2 1 ∧ F 2 1 ≤ 2147483647 := H.krg 2 1 (by decide); rw [show F 2 1 = u2_1 from (eu2_1)] at h1; exact h1
  have r3 : (0 : Int) ≤ n3 ∧ n3 ≤ 1000000 := by have h1 := H.nle 3 (by decide); have h2 : (N 3 : Int) = n3 := en3; omega
  have r4 : (0 : Int) ≤ n4 ∧ n4 ≤ 1000000 := by have h1 := H.nle 4 (by decide); have h2 : (N 4 : Int) = n4 := en4; omega
  refine Ew_of (pc' := 1) (fun _ => x_aload_n rfl rfl) ?_
  refine Ew_of (pc' := 2) (fun _ => x_aload_n rfl rfl) ?_
  refine Ew_of (pc' := 3) (fun _ => x_aload_n rfl rfl) ?_
  refine Ew_of (pc' := 4) (fun _ => x_iload_n rfl rfl) ?_
  have r5 : (-2147483648 : Int) ≤ F 0 4 ∧ F 0 4 ≤ 2147483647 := by have h1 : (-2147483648 : Int) ≤ F 0 4 ∧ F 0 4 ≤ 2147483647 := H.krg 0 4 (by decide); rw [show F 0 4 = F 0 4 from rfl] at h1; exact h1
  have r6 : (-2147483648 : Int) ≤ F 0 6 ∧ F 0 6 ≤ 2147483647 := by have h1 : (-2147483648 : Int) ≤ F 0 6 ∧ F 0 6 ≤ 2147483647 := H.krg 0 6 (by decide); rw [show F 0 6 = F 0 6 from rfl] at h1; exact h1
  have r7 : (-2147483648 : Int) ≤ F 0 8 ∧ F 0 8 ≤ 2147483647 := by have h1 : (-2147483648 : Int) ≤ F 0 8 ∧ F 0 8 ≤ 2147483647 := H.krg 0 8 (by decide); rw [show F 0 8 = F 0 8 from rfl] at h1; exact h1
  refine v_inv H (o := 0) rfl rfl rfl rfl rfl rfl (by rfl) (C204_Row_Row (D := pul [0, 1, 2, 3] D) (N := pul [0, 1, 2, 3] N) (HW_sub H (VS_of (show vsub V210_Row_Row V204_Row_Row [0, 1, 2, 3] = true by decide +kernel))) (pf3) (n3) (en3) (F 0 4) (rfl) (F 0 6) (rfl) (F 0 8) (rfl) (u1_1) ((eu1_1)) (show inr (a3) by omega) (fun σ8 F8' A8' H' O' hS8 hA8 y8_0_4 ey8_0_4 y8_0_6 ey8_0_6 y8_0_8 ey8_0_8 pq8_0 pq8_1 pz8_0 => ⟨rfl, ?_⟩))
  refine v_back (c := c) (s := s) H (show vsub V210_Row_Row V204_Row_Row [0, 1, 2, 3] = true by decide +kernel) H' O' (fun F8 A8 H O' eF8 eA8 => ?_)
  have O := OUT_trans O O'
  -- Tags.begin
  have pl8_0 : F8 0 3 = (D 3 : Int) := (eF8 0 3).trans (pq8_0)
  have pl8_1 : F8 0 5 = (D 2 : Int) := (eF8 0 5).trans (pq8_1)
  have r9 : (-2147483648 : Int) ≤ y8_0_4 ∧ y8_0_4 ≤ 2147483647 := by have h1 : (-2147483648 : Int) ≤ F8 0 4 ∧ F8 0 4 ≤ 2147483647 := H.krg 0 4 (by decide); rw [show F8 0 4 = y8_0_4 from ((eF8 0 4).trans ey8_0_4)] at h1; exact h1
  have r10 : (-2147483648 : Int) ≤ y8_0_6 ∧ y8_0_6 ≤ 2147483647 := by have h1 : (-2147483648 : Int) ≤ F8 0 6 ∧ F8 0 6 ≤ 2147483647 := H.krg 0 6 (by decide); rw [show F8 0 6 = y8_0_6 from ((eF8 0 6).trans ey8_0_6)] at h1; exact h1
  have r11 : (-2147483648 : Int) ≤ y8_0_8 ∧ y8_0_8 ≤ 2147483647 := by have h1 : (-2147483648 : Int) ≤ F8 0 8 ∧ F8 0 8 ≤ 2147483647 := H.krg 0 8 (by decide); rw [show F8 0 8 = y8_0_8 from ((eF8 0 8).trans ey8_0_8)] at h1; exact h1
  refine Ew_of (pc' := 8) (fun _ => x_iconst rfl) ?_
  refine Ew_of (pc' := 10) (fun _ => x_istore rfl) ?_
  refine Ew_of (pc' := 11) (fun _ => x_iconst rfl) ?_
  refine Ew_of (pc' := 13) (fun _ => x_istore rfl) ?_
  suffices hl13 : ∀ (m : Nat), ∀ (ls : rO) (σ : rS) (D_13 N_13 : Nat → Nat) (c_13 s_13 : Nat) (F_13 : hF) (A_13 : hA) (x13_4 : Int) (x13_5 : Int), rlook ls 0 = some (.ref (D_13 0)) → rlook ls 4 = some (I (x13_4)) → rlook ls 5 = some (I (x13_5)) → HW V210_Row_Row σ D_13 N_13 F_13 A_13 → OUT (V210_Row_Row).length D N σE c s D_13 N_13 σ c_13 s_13 → SD [4] D D_13 → SD [4] N N_13 → SF [(0, 7), (0, 8), (2, 0), (2, 1), (2, 2)] F8 F_13 → SA [4] A8 A_13 → F_13 2 0 = (D_13 4 : Int) → ∀ m13_4 : Int, (N_13 4 : Int) = m13_4 → ∀ y13_2_1 : Int, F_13 2 1 = y13_2_1 → (inr (x13_4)) → (inr (x13_5)) → ((0) ≤ (x13_5)) → ((x13_5) ≤ (0) ∨ (x13_5) ≤ ((y8_0_4))) → (0 ≤ (x13_4) ∧ (x13_4) ≤ (y8_0_4)) → (0 ≤ (y13_2_1) ∧ (y13_2_1) ≤ (m13_4) ∧ (m13_4) ≤ 65536) → ((y13_2_1) ≤ (a3)) → (0 ≤ (y8_0_4) ∧ (y8_0_4) ≤ (n3)) → (((y8_0_4)) - (x13_5)).toNat = m → Ew 210 (d + 5) 13 ls [] σ c_13 s_13 Q from
    hl13 _ _ _ _ _ _ _ _ _ (0) (0) (rk_o (rk_o (rfl) rfl rfl) rfl rfl) (rk_o (rk_s) rfl rfl) (rk_s) H O (SD_refl) (SD_refl) (SF_refl) (SA_refl) ((((show F8 2 0 = F 2 0 from (eF8 2 0).trans (hS8 2 0 rfl)))).trans (pf4)) (n4) (en4) (u2_1) ((((show F8 2 1 = F 2 1 from (eF8 2 1).trans (hS8 2 1 rfl))).trans (eu2_1)))  (show inr (0) by omega) (show inr (0) by omega) (show (0) ≤ (0) by omega) (show (0) ≤ (0) ∨ (0) ≤ ((y8_0_4)) by omega) (show 0 ≤ (0) ∧ (0) ≤ (y8_0_4) by omega) (show 0 ≤ (u2_1) ∧ (u2_1) ≤ (n4) ∧ (n4) ≤ 65536 by omega) (show (u2_1) ≤ (a3) by omega) (show 0 ≤ (y8_0_4) ∧ (y8_0_4) ≤ (n3) by omega) rfl
  as_aux_lemma =>
  intro m
  induction m using Nat.strongRecOn with
  | _ m ih13 =>
    intro ls σ D_13 N_13 c_13 s_13 F_13 A_13 x13_4 x13_5 l13_0 l13_4 l13_5 H O hD_13 hN_13 hS_13 hA_13 pm13_4 m13_4 em13_4 y13_2_1 ey13_2_1  j13_0 j13_1 j13_2 j13_3 j13_4 j13_5 j13_6 j13_7 hm13
    have pf_13_0_3 : F_13 0 3 = (D_13 3 : Int) := (hS_13 0 3 rfl).trans ((pl8_0).trans (congrArg (fun q : Nat => (q : Int)) (hD_13 3 rfl).symm))
    have pf_13_0_5 : F_13 0 5 = (D_13 2 : Int) := (hS_13 0 5 rfl).trans ((pl8_1).trans (congrArg (fun q : Nat => (q : Int)) (hD_13 2 rfl).symm))
    have pf_13_1_0 : F_13 1 0 = (D_13 3 : Int) := (hS_13 1 0 rfl).trans (((((show F8 1 0 = F 1 0 from (eF8 1 0).trans (hS8 1 0 rfl)))).trans (pf3)).trans (congrArg (fun q : Nat => (q : Int)) (hD_13 3 rfl).symm))
    have r12 : (0 : Int) ≤ m13_4 ∧ m13_4 ≤ 1000000 := by have h1 := H.nle 4 (by decide); have h2 : (N_13 4 : Int) = m13_4 := em13_4; omega
    have r13 : (-2147483648 : Int) ≤ y13_2_1 ∧ y13_2_1 ≤ 2147483647 := by have h1 : (-2147483648 : Int) ≤ F_13 2 1 ∧ F_13 2 1 ≤ 2147483647 := H.krg 2 1 (by decide); rw [show F_13 2 1 = y13_2_1 from (ey13_2_1)] at h1; exact h1
    refine Ew_of (pc' := 15) (fun _ => x_iload rfl l13_5) ?_
    refine Ew_of (pc' := 16) (fun _ => x_aload_n rfl l13_0) ?_
    refine v_g H (o := 0) (v := I (y8_0_4)) rfl rfl rfl rfl rfl (congrArg (fun z : Int => I z) (((hS_13 0 4 rfl).trans ((eF8 0 4).trans ey8_0_4)) : F_13 0 4 = y8_0_4)) ?_
    have hc227 : ∀ (ls : rO) (σ : rS) (F_c227 : hF) (A_c227 : hA) , rlook ls 0 = some (.ref (D_13 0)) → HW V210_Row_Row σ D_13 N_13 F_c227 A_c227 → OUT (V210_Row_Row).length D N σE c s D_13 N_13 σ c_13 s_13 → SF [] F_13 F_c227 → SA [] A_13 A_c227 → (((x13_5) ≥ (y8_0_4)) ∨ ((x13_5) < (y8_0_4) ∧ (x13_4) ≥ (y8_0_4))) → Ew 210 (d + 5) 227 ls [] σ c_13 s_13 Q := by
     as_aux_lemma =>
      intro  ls σ F_c227 A_c227  lc227_0 H O hS_c227 hA_c227     jc227_0
      refine Ew_of (pc' := 228) (fun _ => x_aload_n rfl lc227_0) ?_
      refine Ew_of (pc' := 229) (fun _ => x_iconst rfl) ?_
      refine Ew_of (pc' := 230) (fun _ => x_aload_n rfl lc227_0) ?_
      refine v_g H (o := 0) (v := I (y8_0_4)) rfl rfl rfl rfl rfl (congrArg (fun z : Int => I z) ((((hS_c227 0 4 rfl).trans (hS_13 0 4 rfl)).trans ((eF8 0 4).trans ey8_0_4)) : F_c227 0 4 = y8_0_4)) ?_
      have r14 : (-2147483648 : Int) ≤ F_13 0 8 ∧ F_13 0 8 ≤ 2147483647 := by have h1 : (-2147483648 : Int) ≤ F_c227 0 8 ∧ F_c227 0 8 ≤ 2147483647 := H.krg 0 8 (by decide); rw [show F_c227 0 8 = F_13 0 8 from (hS_c227 0 8 rfl)] at h1; exact h1
      refine v_inv H (o := 0) rfl rfl rfl rfl rfl rfl (by rfl) (C203 (D := pul [0] D_13) (N := pul [0] N_13) (HW_sub H (VS_of (show vsub V210_Row_Row V203 [0] = true by decide +kernel))) (F_13 0 8) ((hS_c227 0 8 rfl)) (show inr (0) by omega) (show inr (y8_0_4) by omega) (fun z15 σ15 F15' A15' H' O' hS15 hA15 y15_0_8 ey15_0_8 pz15_0 pz15_1 pz15_2 => ⟨rfl, ?_⟩))
      refine v_back (c := c_13) (s := s_13) H (show vsub V210_Row_Row V203 [0] = true by decide +kernel) H' O' (fun F15 A15 H O' eF15 eA15 => ?_)
      have O := OUT_trans O O'
      -- Tags.fail
      have r16 : (-2147483648 : Int) ≤ y15_0_8 ∧ y15_0_8 ≤ 2147483647 := by have h1 : (-2147483648 : Int) ≤ F15 0 8 ∧ F15 0 8 ≤ 2147483647 := H.krg 0 8 (by decide); rw [show F15 0 8 = y15_0_8 from ((eF15 0 8).trans ey15_0_8)] at h1; exact h1
      exact w_ireturn rfl (k (z15) _ _ _ _ _ _ _ H O (SD_trans (SD_refl) hD_13 (any_subA rfl)) (SD_trans (SD_refl) hN_13 (any_subA rfl)) (SF_trans (SF_trans (SF_trans (SF_trans (SF_refl) (SF_glu (ι := [0, 1, 2, 3]) hS8 eF8 (by decide +kernel)) (any_sub (l' := [(0, 3), (0, 4), (0, 5), (0, 6), (0, 8)]) rfl)) hS_13 (any_sub rfl)) hS_c227 (any_sub rfl)) (SF_glu (ι := [0]) hS15 eF15 (by decide +kernel)) (any_sub (l' := [(0, 8)]) rfl)) (SA_trans (SA_trans (SA_trans (SA_trans (SA_refl) (SA_glu (ι := [0, 1, 2, 3]) hA8 eA8 (by decide +kernel)) (any_subA (l' := []) rfl)) hA_13 (any_subA rfl)) hA_c227 (any_subA rfl)) (SA_glu (ι := [0]) hA15 eA15 (by decide +kernel)) (any_subA (l' := []) rfl)) (((((show F15 2 0 = F_c227 2 0 from (eF15 2 0))).trans (hS_c227 2 0 rfl))).trans (pm13_4)) (m13_4) (em13_4) (y13_2_1) (((((show F15 2 1 = F_c227 2 1 from (eF15 2 1))).trans (hS_c227 2 1 rfl)).trans (ey13_2_1))) (show inr (z15) by omega) (show 0 ≤ (z15) ∧ (z15) ≤ 12 by omega) (show 0 ≤ (y13_2_1) ∧ (y13_2_1) ≤ (m13_4) ∧ (m13_4) ≤ 65536 by omega))
    refine w_icmpge (t := 227) rfl rfl (show inr (x13_5) by omega) (show inr (y8_0_4) by omega) (fun b17 => ?_) (fun b17 => ?_)
    · exact hc227  _ _ _ _  (l13_0) H O (SF_refl) (SA_refl)     (show ((x13_5) ≥ (y8_0_4)) ∨ ((x13_5) < (y8_0_4) ∧ (x13_4) ≥ (y8_0_4)) by omega)
    · refine Ew_of (pc' := 24) (fun _ => x_iload rfl l13_4) ?_
      refine Ew_of (pc' := 25) (fun _ => x_aload_n rfl l13_0) ?_
      refine v_g H (o := 0) (v := I (y8_0_4)) rfl rfl rfl rfl rfl (congrArg (fun z : Int => I z) (((hS_13 0 4 rfl).trans ((eF8 0 4).trans ey8_0_4)) : F_13 0 4 = y8_0_4)) ?_
      refine w_icmpge (t := 227) rfl rfl (show inr (x13_4) by omega) (show inr (y8_0_4) by omega) (fun b18 => ?_) (fun b18 => ?_)
      · exact hc227  _ _ _ _  (l13_0) H O (SF_refl) (SA_refl)     (show ((x13_5) ≥ (y8_0_4)) ∨ ((x13_5) < (y8_0_4) ∧ (x13_4) ≥ (y8_0_4)) by omega)
      · refine Ew_of (pc' := 32) (fun _ => x_aload_n rfl l13_0) ?_
        refine v_g H (o := 0) (v := .ref (D_13 3)) rfl rfl rfl rfl rfl (vrf (pf_13_0_3)) ?_
        refine Ew_of (pc' := 37) (fun _ => x_iload rfl l13_4) ?_
        refine v_lB H (o := 3) rfl rfl rfl rfl (n := n3) ((congrArg (fun q : Nat => (q : Int)) (hN_13 3 rfl)).trans (en3)) (show 0 ≤ x13_4 ∧ x13_4 < n3 by omega) (fun v19 ev19 qv19 => ?_)
        have ev19 : (A 3) (x13_4) = v19 := (congrFun ((funext (hA_13 3 rfl)).trans ((show A8 3 = A 3 from (eA8 3).trans (funext (hA8 3 rfl))))) (x13_4)).symm.trans ev19
        refine Ew_of (pc' := 41) (fun _ => x_sipush (z := 255) rfl (by decide)) ?_
        refine w_iand rfl (show inr (v19) by omega) (show inr (255) by omega) (fun z20 gz20 gaz20 gbz20 => ?_)
        refine Ew_of (pc' := 44) (fun _ => x_istore rfl) ?_
        refine Ew_of (pc' := 46) (fun _ => x_iload rfl (rk_o (l13_4) rfl rfl)) ?_
        have hc66 : ∀ (ls : rO) (σ : rS) (F_c66 : hF) (A_c66 : hA) , rlook ls 0 = some (.ref (D_13 0)) → rlook ls 4 = some (I (x13_4)) → rlook ls 5 = some (I (x13_5)) → rlook ls 6 = some (I (z20)) → HW V210_Row_Row σ D_13 N_13 F_c66 A_c66 → OUT (V210_Row_Row).length D N σE c s D_13 N_13 σ c_13 s_13 → SF [] F_13 F_c66 → SA [] A_13 A_c66 → (((x13_4) ≠ (0)) ∨ ((x13_4) = (0) ∧ (z20) = (255))) → Ew 210 (d + 5) 66 ls [] σ c_13 s_13 Q := by
         as_aux_lemma =>
          intro  ls σ F_c66 A_c66  lc66_0 lc66_4 lc66_5 lc66_6 H O hS_c66 hA_c66     jc66_0
          refine Ew_of (pc' := 68) (fun _ => x_iload rfl lc66_6) ?_
          refine Ew_of (pc' := 69) (fun _ => x_iconst rfl) ?_
          have hc88 : ∀ (ls : rO) (σ : rS) (F_c88 : hF) (A_c88 : hA) , rlook ls 0 = some (.ref (D_13 0)) → rlook ls 4 = some (I (x13_4)) → rlook ls 5 = some (I (x13_5)) → rlook ls 6 = some (I (z20)) → HW V210_Row_Row σ D_13 N_13 F_c88 A_c88 → OUT (V210_Row_Row).length D N σE c s D_13 N_13 σ c_13 s_13 → SF [] F_c66 F_c88 → SA [] A_c66 A_c88 → (((z20) < (2)) ∨ ((z20) ≥ (2) ∧ (z20) > (127))) → Ew 210 (d + 5) 88 ls [] σ c_13 s_13 Q := by
           as_aux_lemma =>
            intro  ls σ F_c88 A_c88  lc88_0 lc88_4 lc88_5 lc88_6 H O hS_c88 hA_c88     jc88_0
            have hc119 : ∀ (tc119_0 : Int), ∀ (ls : rO) (σ : rS) (F_c119 : hF) (A_c119 : hA) , rlook ls 0 = some (.ref (D_13 0)) → rlook ls 4 = some (I (x13_4)) → rlook ls 5 = some (I (x13_5)) → rlook ls 6 = some (I (z20)) → HW V210_Row_Row σ D_13 N_13 F_c119 A_c119 → OUT (V210_Row_Row).length D N σE c s D_13 N_13 σ c_13 s_13 → SF [] F_c88 F_c119 → SA [] A_c88 A_c119 → (inr (tc119_0)) → (0 ≤ (tc119_0) ∧ (tc119_0) ≤ 16777215) → Ew 210 (d + 5) 119 ls [I (tc119_0)] σ c_13 s_13 Q := by
             as_aux_lemma =>
              intro tc119_0 ls σ F_c119 A_c119  lc119_0 lc119_4 lc119_5 lc119_6 H O hS_c119 hA_c119     jc119_0 jc119_1
              refine Ew_of (pc' := 121) (fun _ => x_istore rfl) ?_
              refine Ew_of (pc' := 122) (fun _ => x_aload_n rfl (rk_o (lc119_0) rfl rfl)) ?_
              refine v_g H (o := 0) (v := I (y8_0_4)) rfl rfl rfl rfl rfl (congrArg (fun z : Int => I z) ((((((hS_c119 0 4 rfl).trans (hS_c88 0 4 rfl)).trans (hS_c66 0 4 rfl)).trans (hS_13 0 4 rfl)).trans ((eF8 0 4).trans ey8_0_4)) : F_c119 0 4 = y8_0_4)) ?_
              refine Ew_of (pc' := 127) (fun _ => x_iload rfl (rk_o (lc119_4) rfl rfl)) ?_
              refine w_isub rfl ?_
              refine Ew_of (pc' := 129) (fun _ => x_iconst rfl) ?_
              refine w_isub rfl ?_
              refine Ew_of (pc' := 132) (fun _ => x_iload rfl rk_s) ?_
              refine w_icmpge (t := 146) rfl rfl (show inr (((y8_0_4 - x13_4) - 4)) by omega) (show inr (tc119_0) by omega) (fun b21 => ?_) (fun b21 => ?_)
              · have hc186 : ∀ (ls : rO) (σ : rS) (F_c186 : hF) (A_c186 : hA) , rlook ls 0 = some (.ref (D_13 0)) → rlook ls 4 = some (I (x13_4)) → rlook ls 5 = some (I (x13_5)) → rlook ls 6 = some (I (z20)) → rlook ls 7 = some (I (tc119_0)) → HW V210_Row_Row σ D_13 N_13 F_c186 A_c186 → OUT (V210_Row_Row).length D N σE c s D_13 N_13 σ c_13 s_13 → SF [] F_c119 F_c186 → SA [] A_c119 A_c186 → Ew 210 (d + 5) 186 ls [] σ c_13 s_13 Q := by
                 as_aux_lemma =>
                  intro  ls σ F_c186 A_c186  lc186_0 lc186_4 lc186_5 lc186_6 lc186_7 H O hS_c186 hA_c186     
                  have hc212 : ∀ (ls : rO) (σ : rS) (D_c212 N_c212 : Nat → Nat) (c_c212 s_c212 : Nat) (F_c212 : hF) (A_c212 : hA) , rlook ls 0 = some (.ref (D_c212 0)) → rlook ls 4 = some (I (x13_4)) → rlook ls 5 = some (I (x13_5)) → rlook ls 7 = some (I (tc119_0)) → HW V210_Row_Row σ D_c212 N_c212 F_c212 A_c212 → OUT (V210_Row_Row).length D N σE c s D_c212 N_c212 σ c_c212 s_c212 → SD [4] D_13 D_c212 → SD [4] N_13 N_c212 → SF [(0, 7), (0, 8), (2, 0), (2, 1), (2, 2)] F_c186 F_c212 → SA [4] A_c186 A_c212 → F_c212 2 0 = (D_c212 4 : Int) → ∀ mc212_4 : Int, (N_c212 4 : Int) = mc212_4 → ∀ yc212_2_1 : Int, F_c212 2 1 = yc212_2_1 → (0 ≤ (x13_4) ∧ (x13_4) ≤ (y8_0_4)) → (0 ≤ (yc212_2_1) ∧ (yc212_2_1) ≤ (mc212_4) ∧ (mc212_4) ≤ 65536) → ((yc212_2_1) ≤ (a3)) → (0 ≤ (y8_0_4) ∧ (y8_0_4) ≤ (n3)) → Ew 210 (d + 5) 212 ls [] σ c_c212 s_c212 Q := by
                   as_aux_lemma =>
                    intro  ls σ D_c212 N_c212 c_c212 s_c212 F_c212 A_c212  lc212_0 lc212_4 lc212_5 lc212_7 H O hD_c212 hN_c212 hS_c212 hA_c212 pmc212_4 mc212_4 emc212_4 yc212_2_1 eyc212_2_1  jc212_0 jc212_1 jc212_2 jc212_3
                    have pf_c212_0_3 : F_c212 0 3 = (D_c212 3 : Int) := (hS_c212 0 3 rfl).trans (((((((hS_c186 0 3 rfl).trans (hS_c119 0 3 rfl)).trans (hS_c88 0 3 rfl)).trans (hS_c66 0 3 rfl))).trans (pf_13_0_3)).trans (congrArg (fun q : Nat => (q : Int)) (hD_c212 3 rfl).symm))
                    have pf_c212_0_5 : F_c212 0 5 = (D_c212 2 : Int) := (hS_c212 0 5 rfl).trans (((((((hS_c186 0 5 rfl).trans (hS_c119 0 5 rfl)).trans (hS_c88 0 5 rfl)).trans (hS_c66 0 5 rfl))).trans (pf_13_0_5)).trans (congrArg (fun q : Nat => (q : Int)) (hD_c212 2 rfl).symm))
                    have pf_c212_1_0 : F_c212 1 0 = (D_c212 3 : Int) := (hS_c212 1 0 rfl).trans (((((((hS_c186 1 0 rfl).trans (hS_c119 1 0 rfl)).trans (hS_c88 1 0 rfl)).trans (hS_c66 1 0 rfl))).trans (pf_13_1_0)).trans (congrArg (fun q : Nat => (q : Int)) (hD_c212 3 rfl).symm))
                    have r22 : (0 : Int) ≤ mc212_4 ∧ mc212_4 ≤ 1000000 := by have h1 := H.nle 4 (by decide); have h2 : (N_c212 4 : Int) = mc212_4 := emc212_4; omega
                    have r23 : (-2147483648 : Int) ≤ yc212_2_1 ∧ yc212_2_1 ≤ 2147483647 := by have h1 : (-2147483648 : Int) ≤ F_c212 2 1 ∧ F_c212 2 1 ≤ 2147483647 := H.krg 2 1 (by decide); rw [show F_c212 2 1 = yc212_2_1 from (eyc212_2_1)] at h1; exact h1
                    refine Ew_of (pc' := 214) (fun _ => x_iload rfl lc212_4) ?_
                    refine Ew_of (pc' := 215) (fun _ => x_iconst rfl) ?_
                    refine Ew_of (pc' := 217) (fun _ => x_iload rfl lc212_7) ?_
                    refine w_iadd rfl ?_
                    refine w_iadd rfl ?_
                    refine Ew_of (pc' := 221) (fun _ => x_istore rfl) ?_
                    refine Ew_of (pc' := 224) (fun _ => x_iinc (len := 3) rfl (rk_o (lc212_5) rfl rfl)) ?_
                    refine Ew_of (pc' := 13) (fun _ => x_goto rfl rfl) ?_
                    exact ih13 _ (by omega) _ _ _ _ _ _ _ _ ((x13_4 + (4 + tc119_0))) ((x13_5 + 1)) (rk_o (rk_o (lc212_0) rfl rfl) rfl rfl) (rk_o (rk_s) rfl rfl) (rk_s) H O (SD_trans (hD_13) hD_c212 (any_subA rfl)) (SD_trans (hN_13) hN_c212 (any_subA rfl)) (SF_trans (SF_trans (SF_trans (SF_trans (SF_trans (hS_13) hS_c66 (any_sub rfl)) hS_c88 (any_sub rfl)) hS_c119 (any_sub rfl)) hS_c186 (any_sub rfl)) hS_c212 (any_sub rfl)) (SA_trans (SA_trans (SA_trans (SA_trans (SA_trans (hA_13) hA_c66 (any_subA rfl)) hA_c88 (any_subA rfl)) hA_c119 (any_subA rfl)) hA_c186 (any_subA rfl)) hA_c212 (any_subA rfl)) (pmc212_4) (mc212_4) (emc212_4) (yc212_2_1) ((eyc212_2_1))  (show inr ((x13_4 + (4 + tc119_0))) by omega) (show inr ((x13_5 + 1)) by omega) (show (0) ≤ ((x13_5 + 1)) by omega) (show ((x13_5 + 1)) ≤ (0) ∨ ((x13_5 + 1)) ≤ ((y8_0_4)) by omega) (show 0 ≤ ((x13_4 + (4 + tc119_0))) ∧ ((x13_4 + (4 + tc119_0))) ≤ (y8_0_4) by omega) (show 0 ≤ (yc212_2_1) ∧ (yc212_2_1) ≤ (mc212_4) ∧ (mc212_4) ≤ 65536 by omega) (show (yc212_2_1) ≤ (a3) by omega) (show 0 ≤ (y8_0_4) ∧ (y8_0_4) ≤ (n3) by omega) rfl
                  refine Ew_of (pc' := 188) (fun _ => x_iload rfl lc186_6) ?_
                  refine Ew_of (pc' := 189) (fun _ => x_iconst rfl) ?_
                  refine w_icmpge (t := 212) rfl rfl (show inr (z20) by omega) (show inr (2) by omega) (fun b24 => ?_) (fun b24 => ?_)
                  · exact hc212  _ _ _ _ _ _ _ _  (lc186_0) (lc186_4) (lc186_5) (lc186_7) H O (SD_refl) (SD_refl) (SF_refl) (SA_refl) ((((((hS_c186 2 0 rfl).trans (hS_c119 2 0 rfl)).trans (hS_c88 2 0 rfl)).trans (hS_c66 2 0 rfl))).trans (pm13_4)) (m13_4) (em13_4) (y13_2_1) ((((((hS_c186 2 1 rfl).trans (hS_c119 2 1 rfl)).trans (hS_c88 2 1 rfl)).trans (hS_c66 2 1 rfl)).trans (ey13_2_1)))  (show 0 ≤ (x13_4) ∧ (x13_4) ≤ (y8_0_4) by omega) (show 0 ≤ (y13_2_1) ∧ (y13_2_1) ≤ (m13_4) ∧ (m13_4) ≤ 65536 by omega) (show (y13_2_1) ≤ (a3) by omega) (show 0 ≤ (y8_0_4) ∧ (y8_0_4) ≤ (n3) by omega)
                  · refine Ew_of (pc' := 193) (fun _ => x_aload_n rfl lc186_0) ?_
                    refine Ew_of (pc' := 195) (fun _ => x_iload rfl lc186_4) ?_
                    refine Ew_of (pc' := 197) (fun _ => x_iload rfl lc186_6) ?_
                    refine Ew_of (pc' := 199) (fun _ => x_iload rfl lc186_7) ?_
                    refine v_inv H (o := 0) rfl rfl rfl rfl rfl rfl (by rfl) (C211 (D := pul [0, 3, 2, 4] D_13) (N := pul [0, 3, 2, 4] N_13) (HW_sub H (VS_of (show vsub V210_Row_Row V211 [0, 3, 2, 4] = true by decide +kernel))) (STC_out HT HE O) ((((((hS_c186 0 3 rfl).trans (hS_c119 0 3 rfl)).trans (hS_c88 0 3 rfl)).trans (hS_c66 0 3 rfl))).trans (pf_13_0_3)) ((((((hS_c186 0 5 rfl).trans (hS_c119 0 5 rfl)).trans (hS_c88 0 5 rfl)).trans (hS_c66 0 5 rfl))).trans (pf_13_0_5)) ((((((hS_c186 2 0 rfl).trans (hS_c119 2 0 rfl)).trans (hS_c88 2 0 rfl)).trans (hS_c66 2 0 rfl))).trans (pm13_4)) (n3) ((congrArg (fun q : Nat => (q : Int)) (hN_13 3 rfl)).trans (en3)) (m13_4) (em13_4) (y8_0_6) (((((((hS_c186 0 6 rfl).trans (hS_c119 0 6 rfl)).trans (hS_c88 0 6 rfl)).trans (hS_c66 0 6 rfl)).trans (hS_13 0 6 rfl)).trans ((eF8 0 6).trans ey8_0_6))) (y13_2_1) ((((((hS_c186 2 1 rfl).trans (hS_c119 2 1 rfl)).trans (hS_c88 2 1 rfl)).trans (hS_c66 2 1 rfl)).trans (ey13_2_1))) (show inr (x13_4) by omega) (show inr (z20) by omega) (show inr (tc119_0) by omega) (show 0 ≤ (x13_4) ∧ 0 ≤ (tc119_0) ∧ (x13_4) + 4 + (tc119_0) ≤ (n3) ∧ (n3) ≤ 65536 by omega) (show 0 ≤ (y13_2_1) ∧ (y13_2_1) ≤ (m13_4) ∧ (m13_4) ≤ 65536 by omega) (show 0 ≤ (y8_0_6) ∧ (y8_0_6) ≤ 65536 ∧ (y13_2_1) ≤ (y8_0_6) by omega) (fun z25 σ25 D25' N25' F25' A25' c25 s25 H' O' hD25 hN25 hS25 hA25 pm25_3 m25_3 em25_3 y25_2_1 ey25_2_1 pz25_0 pz25_1 pz25_2 pz25_3 => ⟨rfl, ?_⟩))
                    refine v_backM (c := c_13) (s := s_13) H (show vsub V210_Row_Row V211 [0, 3, 2, 4] = true by decide +kernel) H' O' hD25 (show vmov V210_Row_Row [0, 3, 2, 4] [3] = true by decide +kernel) (fun D25 N25 F25 A25 H O' eD25 eN25 eF25 eA25 => ?_)
                    have O := OUT_trans O O'
                    -- Tags.unpackChunk
                    have pf25_0_3 : F25 0 3 = (D25 3 : Int) := ((show F25 0 3 = F_c186 0 3 from (eF25 0 3).trans (hS25 0 3 rfl))).trans (((((((hS_c186 0 3 rfl).trans (hS_c119 0 3 rfl)).trans (hS_c88 0 3 rfl)).trans (hS_c66 0 3 rfl))).trans (pf_13_0_3)).trans (congrArg (fun q : Nat => (q : Int)) ((show D25 3 = D_13 3 from (eD25 3).trans (hD25 1 rfl))).symm))
                    have pf25_0_5 : F25 0 5 = (D25 2 : Int) := ((show F25 0 5 = F_c186 0 5 from (eF25 0 5).trans (hS25 0 5 rfl))).trans (((((((hS_c186 0 5 rfl).trans (hS_c119 0 5 rfl)).trans (hS_c88 0 5 rfl)).trans (hS_c66 0 5 rfl))).trans (pf_13_0_5)).trans (congrArg (fun q : Nat => (q : Int)) ((show D25 2 = D_13 2 from (eD25 2).trans (hD25 2 rfl))).symm))
                    have pf25_1_0 : F25 1 0 = (D25 3 : Int) := ((show F25 1 0 = F_c186 1 0 from (eF25 1 0))).trans (((((((hS_c186 1 0 rfl).trans (hS_c119 1 0 rfl)).trans (hS_c88 1 0 rfl)).trans (hS_c66 1 0 rfl))).trans (pf_13_1_0)).trans (congrArg (fun q : Nat => (q : Int)) ((show D25 3 = D_13 3 from (eD25 3).trans (hD25 1 rfl))).symm))
                    have pf25_2_0 : F25 2 0 = (D25 4 : Int) := (eF25 2 0).trans (pm25_3.trans (congrArg (fun q : Nat => (q : Int)) (eD25 4).symm))
                    have r26 : (0 : Int) ≤ m25_3 ∧ m25_3 ≤ 1000000 := by have h1 := H.nle 4 (by decide); have h2 : (N25 4 : Int) = m25_3 := (congrArg (fun q : Nat => (q : Int)) (eN25 4)).trans em25_3; omega
                    have r27 : (-2147483648 : Int) ≤ y25_2_1 ∧ y25_2_1 ≤ 2147483647 := by have h1 : (-2147483648 : Int) ≤ F25 2 1 ∧ F25 2 1 ≤ 2147483647 := H.krg 2 1 (by decide); rw [show F25 2 1 = y25_2_1 from ((eF25 2 1).trans ey25_2_1)] at h1; exact h1
                    refine Ew_of (pc' := 204) (fun _ => x_istore rfl) ?_
                    refine Ew_of (pc' := 206) (fun _ => x_iload rfl rk_s) ?_
                    refine w_ifeq (t := 212) rfl rfl (show inr (z25) by omega) (fun b28 => ?_) (fun b28 => ?_)
                    · exact hc212  _ _ _ _ _ _ _ _  ((rk_o (lc186_0) rfl rfl).trans (congrArg (fun q : Nat => some (Value.ref q)) (((show D25 0 = D_13 0 from (eD25 0).trans (hD25 0 rfl)))).symm)) (rk_o (lc186_4) rfl rfl) (rk_o (lc186_5) rfl rfl) (rk_o (lc186_7) rfl rfl) H O (SD_trans (SD_refl) (SD_glu (ι := [0, 3, 2, 4]) hD25 eD25 (by decide +kernel)) (any_subA (l' := [4]) rfl)) (SD_trans (SD_refl) (SD_glu (ι := [0, 3, 2, 4]) hN25 eN25 (by decide +kernel)) (any_subA (l' := [4]) rfl)) (SF_trans (SF_refl) (SF_glu (ι := [0, 3, 2, 4]) hS25 eF25 (by decide +kernel)) (any_sub (l' := [(0, 7), (0, 8), (2, 0), (2, 1), (2, 2)]) rfl)) (SA_trans (SA_refl) (SA_glu (ι := [0, 3, 2, 4]) hA25 eA25 (by decide +kernel)) (any_subA (l' := [4]) rfl)) (pf25_2_0) (m25_3) ((congrArg (fun q : Nat => (q : Int)) (eN25 4)).trans em25_3) (y25_2_1) (((eF25 2 1).trans ey25_2_1))  (show 0 ≤ (x13_4) ∧ (x13_4) ≤ (y8_0_4) by omega) (show 0 ≤ (y25_2_1) ∧ (y25_2_1) ≤ (m25_3) ∧ (m25_3) ≤ 65536 by omega) (show (y25_2_1) ≤ (a3) by omega) (show 0 ≤ (y8_0_4) ∧ (y8_0_4) ≤ (n3) by omega)
                    · refine Ew_of (pc' := 211) (fun _ => x_iload rfl rk_s) ?_
                      exact w_ireturn rfl (k (z25) _ _ _ _ _ _ _ H O (SD_trans (SD_trans (SD_refl) hD_13 (any_subA rfl)) (SD_glu (ι := [0, 3, 2, 4]) hD25 eD25 (by decide +kernel)) (any_subA (l' := [4]) rfl)) (SD_trans (SD_trans (SD_refl) hN_13 (any_subA rfl)) (SD_glu (ι := [0, 3, 2, 4]) hN25 eN25 (by decide +kernel)) (any_subA (l' := [4]) rfl)) (SF_trans (SF_trans (SF_trans (SF_trans (SF_trans (SF_trans (SF_trans (SF_refl) (SF_glu (ι := [0, 1, 2, 3]) hS8 eF8 (by decide +kernel)) (any_sub (l' := [(0, 3), (0, 4), (0, 5), (0, 6), (0, 8)]) rfl)) hS_13 (any_sub rfl)) hS_c66 (any_sub rfl)) hS_c88 (any_sub rfl)) hS_c119 (any_sub rfl)) hS_c186 (any_sub rfl)) (SF_glu (ι := [0, 3, 2, 4]) hS25 eF25 (by decide +kernel)) (any_sub (l' := [(0, 7), (0, 8), (2, 0), (2, 1), (2, 2)]) rfl)) (SA_trans (SA_trans (SA_trans (SA_trans (SA_trans (SA_trans (SA_trans (SA_refl) (SA_glu (ι := [0, 1, 2, 3]) hA8 eA8 (by decide +kernel)) (any_subA (l' := []) rfl)) hA_13 (any_subA rfl)) hA_c66 (any_subA rfl)) hA_c88 (any_subA rfl)) hA_c119 (any_subA rfl)) hA_c186 (any_subA rfl)) (SA_glu (ι := [0, 3, 2, 4]) hA25 eA25 (by decide +kernel)) (any_subA (l' := [4]) rfl)) (pf25_2_0) (m25_3) ((congrArg (fun q : Nat => (q : Int)) (eN25 4)).trans em25_3) (y25_2_1) (((eF25 2 1).trans ey25_2_1)) (show inr (z25) by omega) (show 0 ≤ (z25) ∧ (z25) ≤ 12 by omega) (show 0 ≤ (y25_2_1) ∧ (y25_2_1) ≤ (m25_3) ∧ (m25_3) ≤ 65536 by omega))
                refine Ew_of (pc' := 148) (fun _ => x_iload rfl (rk_o (lc119_6) rfl rfl)) ?_
                refine Ew_of (pc' := 151) (fun _ => x_sipush (z := 255) rfl (by decide)) ?_
                refine w_icmpne (t := 186) rfl rfl (show inr (z20) by omega) (show inr (255) by omega) (fun b29 => ?_) (fun b29 => ?_)
                · exact hc186  _ _ _ _  (rk_o (lc119_0) rfl rfl) (rk_o (lc119_4) rfl rfl) (rk_o (lc119_5) rfl rfl) (rk_o (lc119_6) rfl rfl) (rk_s) H O (SF_refl) (SA_refl)
                · refine Ew_of (pc' := 156) (fun _ => x_iload rfl rk_s) ?_
                  refine Ew_of (pc' := 158) (fun _ => x_bipush (z := 6) rfl (by decide)) ?_
                  refine w_icmpne (t := 177) rfl rfl (show inr (tc119_0) by omega) (show inr (6) by omega) (fun b30 => ?_) (fun b30 => ?_)
                  · refine Ew_of (pc' := 178) (fun _ => x_aload_n rfl (rk_o (lc119_0) rfl rfl)) ?_
                    refine Ew_of (pc' := 180) (fun _ => x_bipush (z := 8) rfl (by decide)) ?_
                    refine Ew_of (pc' := 182) (fun _ => x_iload rfl (rk_o (lc119_4) rfl rfl)) ?_
                    have r31 : (-2147483648 : Int) ≤ F_13 0 8 ∧ F_13 0 8 ≤ 2147483647 := by have h1 : (-2147483648 : Int) ≤ F_c119 0 8 ∧ F_c119 0 8 ≤ 2147483647 := H.krg 0 8 (by decide); rw [show F_c119 0 8 = F_13 0 8 from (((hS_c119 0 8 rfl).trans (hS_c88 0 8 rfl)).trans (hS_c66 0 8 rfl))] at h1; exact h1
                    refine v_inv H (o := 0) rfl rfl rfl rfl rfl rfl (by rfl) (C203 (D := pul [0] D_13) (N := pul [0] N_13) (HW_sub H (VS_of (show vsub V210_Row_Row V203 [0] = true by decide +kernel))) (F_13 0 8) ((((hS_c119 0 8 rfl).trans (hS_c88 0 8 rfl)).trans (hS_c66 0 8 rfl))) (show inr (8) by omega) (show inr (x13_4) by omega) (fun z32 σ32 F32' A32' H' O' hS32 hA32 y32_0_8 ey32_0_8 pz32_0 pz32_1 pz32_2 => ⟨rfl, ?_⟩))
                    refine v_back (c := c_13) (s := s_13) H (show vsub V210_Row_Row V203 [0] = true by decide +kernel) H' O' (fun F32 A32 H O' eF32 eA32 => ?_)
                    have O := OUT_trans O O'
                    -- Tags.fail
                    have r33 : (-2147483648 : Int) ≤ y32_0_8 ∧ y32_0_8 ≤ 2147483647 := by have h1 : (-2147483648 : Int) ≤ F32 0 8 ∧ F32 0 8 ≤ 2147483647 := H.krg 0 8 (by decide); rw [show F32 0 8 = y32_0_8 from ((eF32 0 8).trans ey32_0_8)] at h1; exact h1
                    exact w_ireturn rfl (k (z32) _ _ _ _ _ _ _ H O (SD_trans (SD_refl) hD_13 (any_subA rfl)) (SD_trans (SD_refl) hN_13 (any_subA rfl)) (SF_trans (SF_trans (SF_trans (SF_trans (SF_trans (SF_trans (SF_refl) (SF_glu (ι := [0, 1, 2, 3]) hS8 eF8 (by decide +kernel)) (any_sub (l' := [(0, 3), (0, 4), (0, 5), (0, 6), (0, 8)]) rfl)) hS_13 (any_sub rfl)) hS_c66 (any_sub rfl)) hS_c88 (any_sub rfl)) hS_c119 (any_sub rfl)) (SF_glu (ι := [0]) hS32 eF32 (by decide +kernel)) (any_sub (l' := [(0, 8)]) rfl)) (SA_trans (SA_trans (SA_trans (SA_trans (SA_trans (SA_trans (SA_refl) (SA_glu (ι := [0, 1, 2, 3]) hA8 eA8 (by decide +kernel)) (any_subA (l' := []) rfl)) hA_13 (any_subA rfl)) hA_c66 (any_subA rfl)) hA_c88 (any_subA rfl)) hA_c119 (any_subA rfl)) (SA_glu (ι := [0]) hA32 eA32 (by decide +kernel)) (any_subA (l' := []) rfl)) (((((((show F32 2 0 = F_c119 2 0 from (eF32 2 0))).trans (hS_c119 2 0 rfl)).trans (hS_c88 2 0 rfl)).trans (hS_c66 2 0 rfl))).trans (pm13_4)) (m13_4) (em13_4) (y13_2_1) (((((((show F32 2 1 = F_c119 2 1 from (eF32 2 1))).trans (hS_c119 2 1 rfl)).trans (hS_c88 2 1 rfl)).trans (hS_c66 2 1 rfl)).trans (ey13_2_1))) (show inr (z32) by omega) (show 0 ≤ (z32) ∧ (z32) ≤ 12 by omega) (show 0 ≤ (y13_2_1) ∧ (y13_2_1) ≤ (m13_4) ∧ (m13_4) ≤ 65536 by omega))
                  · refine Ew_of (pc' := 162) (fun _ => x_aload_n rfl (rk_o (lc119_0) rfl rfl)) ?_
                    refine v_g H (o := 0) (v := .ref (D_13 3)) rfl rfl rfl rfl rfl (vrf (((((hS_c119 0 3 rfl).trans (hS_c88 0 3 rfl)).trans (hS_c66 0 3 rfl))).trans (pf_13_0_3))) ?_
                    refine Ew_of (pc' := 167) (fun _ => x_iload rfl (rk_o (lc119_4) rfl rfl)) ?_
                    refine Ew_of (pc' := 168) (fun _ => x_aload_n rfl (rk_o (lc119_0) rfl rfl)) ?_
                    refine v_g H (o := 0) (v := I (y8_0_4)) rfl rfl rfl rfl rfl (congrArg (fun z : Int => I z) ((((((hS_c119 0 4 rfl).trans (hS_c88 0 4 rfl)).trans (hS_c66 0 4 rfl)).trans (hS_13 0 4 rfl)).trans ((eF8 0 4).trans ey8_0_4)) : F_c119 0 4 = y8_0_4)) ?_
                    refine w_stat24 rfl rfl (by rfl) (C192_Br (D := pul [3] D_13) (N := pul [3] N_13) (HW_sub H (VS_of (show vsub V210_Row_Row V192_Br [3] = true by decide +kernel))) (STC_out HT HE O) (n3) ((congrArg (fun q : Nat => (q : Int)) (hN_13 3 rfl)).trans (en3)) (show inr (x13_4) by omega) (show inr (y8_0_4) by omega) (show 0 ≤ (x13_4) ∧ 0 ≤ (y8_0_4) ∧ (y8_0_4) ≤ (n3) ∧ (n3) ≤ 65536 ∧ (x13_4) ≤ 200000 by omega) (fun z34 σ34 F34' A34' H' O' hS34 hA34 pz34_0 => ⟨rretB rfl pz34_0, ?_⟩))
                    refine v_back (c := c_13) (s := s_13) H (show vsub V210_Row_Row V192_Br [3] = true by decide +kernel) H' O' (fun F34 A34 H O' eF34 eA34 => ?_)
                    have O := OUT_trans O O'
                    -- Tags.isMark
                    refine w_ifne (t := 186) rfl rfl (show inr (z34) by omega) (fun b35 => ?_) (fun b35 => ?_)
                    · exact hc186  _ _ _ _  (rk_o (lc119_0) rfl rfl) (rk_o (lc119_4) rfl rfl) (rk_o (lc119_5) rfl rfl) (rk_o (lc119_6) rfl rfl) (rk_s) H O (SF_trans (SF_refl) (SF_glu (ι := [3]) hS34 eF34 (by decide +kernel)) (any_sub (l' := []) rfl)) (SA_trans (SA_refl) (SA_glu (ι := [3]) hA34 eA34 (by decide +kernel)) (any_subA (l' := []) rfl))
                    · refine Ew_of (pc' := 178) (fun _ => x_aload_n rfl (rk_o (lc119_0) rfl rfl)) ?_
                      refine Ew_of (pc' := 180) (fun _ => x_bipush (z := 8) rfl (by decide)) ?_
                      refine Ew_of (pc' := 182) (fun _ => x_iload rfl (rk_o (lc119_4) rfl rfl)) ?_
                      have r36 : (-2147483648 : Int) ≤ F_13 0 8 ∧ F_13 0 8 ≤ 2147483647 := by have h1 : (-2147483648 : Int) ≤ F34 0 8 ∧ F34 0 8 ≤ 2147483647 := H.krg 0 8 (by decide); rw [show F34 0 8 = F_13 0 8 from (((((show F34 0 8 = F_c119 0 8 from (eF34 0 8))).trans (hS_c119 0 8 rfl)).trans (hS_c88 0 8 rfl)).trans (hS_c66 0 8 rfl))] at h1; exact h1
                      refine v_inv H (o := 0) rfl rfl rfl rfl rfl rfl (by rfl) (C203 (D := pul [0] D_13) (N := pul [0] N_13) (HW_sub H (VS_of (show vsub V210_Row_Row V203 [0] = true by decide +kernel))) (F_13 0 8) ((((((show F34 0 8 = F_c119 0 8 from (eF34 0 8))).trans (hS_c119 0 8 rfl)).trans (hS_c88 0 8 rfl)).trans (hS_c66 0 8 rfl))) (show inr (8) by omega) (show inr (x13_4) by omega) (fun z37 σ37 F37' A37' H' O' hS37 hA37 y37_0_8 ey37_0_8 pz37_0 pz37_1 pz37_2 => ⟨rfl, ?_⟩))
                      refine v_back (c := c_13) (s := s_13) H (show vsub V210_Row_Row V203 [0] = true by decide +kernel) H' O' (fun F37 A37 H O' eF37 eA37 => ?_)
                      have O := OUT_trans O O'
                      -- Tags.fail
                      have r38 : (-2147483648 : Int) ≤ y37_0_8 ∧ y37_0_8 ≤ 2147483647 := by have h1 : (-2147483648 : Int) ≤ F37 0 8 ∧ F37 0 8 ≤ 2147483647 := H.krg 0 8 (by decide); rw [show F37 0 8 = y37_0_8 from ((eF37 0 8).trans ey37_0_8)] at h1; exact h1
                      exact w_ireturn rfl (k (z37) _ _ _ _ _ _ _ H O (SD_trans (SD_refl) hD_13 (any_subA rfl)) (SD_trans (SD_refl) hN_13 (any_subA rfl)) (SF_trans (SF_trans (SF_trans (SF_trans (SF_trans (SF_trans (SF_trans (SF_refl) (SF_glu (ι := [0, 1, 2, 3]) hS8 eF8 (by decide +kernel)) (any_sub (l' := [(0, 3), (0, 4), (0, 5), (0, 6), (0, 8)]) rfl)) hS_13 (any_sub rfl)) hS_c66 (any_sub rfl)) hS_c88 (any_sub rfl)) hS_c119 (any_sub rfl)) (SF_glu (ι := [3]) hS34 eF34 (by decide +kernel)) (any_sub (l' := []) rfl)) (SF_glu (ι := [0]) hS37 eF37 (by decide +kernel)) (any_sub (l' := [(0, 8)]) rfl)) (SA_trans (SA_trans (SA_trans (SA_trans (SA_trans (SA_trans (SA_trans (SA_refl) (SA_glu (ι := [0, 1, 2, 3]) hA8 eA8 (by decide +kernel)) (any_subA (l' := []) rfl)) hA_13 (any_subA rfl)) hA_c66 (any_subA rfl)) hA_c88 (any_subA rfl)) hA_c119 (any_subA rfl)) (SA_glu (ι := [3]) hA34 eA34 (by decide +kernel)) (any_subA (l' := []) rfl)) (SA_glu (ι := [0]) hA37 eA37 (by decide +kernel)) (any_subA (l' := []) rfl)) ((((((((show F37 2 0 = F34 2 0 from (eF37 2 0))).trans ((show F34 2 0 = F_c119 2 0 from (eF34 2 0)))).trans (hS_c119 2 0 rfl)).trans (hS_c88 2 0 rfl)).trans (hS_c66 2 0 rfl))).trans (pm13_4)) (m13_4) (em13_4) (y13_2_1) ((((((((show F37 2 1 = F34 2 1 from (eF37 2 1))).trans ((show F34 2 1 = F_c119 2 1 from (eF34 2 1)))).trans (hS_c119 2 1 rfl)).trans (hS_c88 2 1 rfl)).trans (hS_c66 2 1 rfl)).trans (ey13_2_1))) (show inr (z37) by omega) (show 0 ≤ (z37) ∧ (z37) ≤ 12 by omega) (show 0 ≤ (y13_2_1) ∧ (y13_2_1) ≤ (m13_4) ∧ (m13_4) ≤ 65536 by omega))
              · refine Ew_of (pc' := 136) (fun _ => x_aload_n rfl (rk_o (lc119_0) rfl rfl)) ?_
                refine Ew_of (pc' := 138) (fun _ => x_bipush (z := 7) rfl (by decide)) ?_
                refine Ew_of (pc' := 139) (fun _ => x_aload_n rfl (rk_o (lc119_0) rfl rfl)) ?_
                refine v_g H (o := 0) (v := I (y8_0_4)) rfl rfl rfl rfl rfl (congrArg (fun z : Int => I z) ((((((hS_c119 0 4 rfl).trans (hS_c88 0 4 rfl)).trans (hS_c66 0 4 rfl)).trans (hS_13 0 4 rfl)).trans ((eF8 0 4).trans ey8_0_4)) : F_c119 0 4 = y8_0_4)) ?_
                have r39 : (-2147483648 : Int) ≤ F_13 0 8 ∧ F_13 0 8 ≤ 2147483647 := by have h1 : (-2147483648 : Int) ≤ F_c119 0 8 ∧ F_c119 0 8 ≤ 2147483647 := H.krg 0 8 (by decide); rw [show F_c119 0 8 = F_13 0 8 from (((hS_c119 0 8 rfl).trans (hS_c88 0 8 rfl)).trans (hS_c66 0 8 rfl))] at h1; exact h1
                refine v_inv H (o := 0) rfl rfl rfl rfl rfl rfl (by rfl) (C203 (D := pul [0] D_13) (N := pul [0] N_13) (HW_sub H (VS_of (show vsub V210_Row_Row V203 [0] = true by decide +kernel))) (F_13 0 8) ((((hS_c119 0 8 rfl).trans (hS_c88 0 8 rfl)).trans (hS_c66 0 8 rfl))) (show inr (7) by omega) (show inr (y8_0_4) by omega) (fun z40 σ40 F40' A40' H' O' hS40 hA40 y40_0_8 ey40_0_8 pz40_0 pz40_1 pz40_2 => ⟨rfl, ?_⟩))
                refine v_back (c := c_13) (s := s_13) H (show vsub V210_Row_Row V203 [0] = true by decide +kernel) H' O' (fun F40 A40 H O' eF40 eA40 => ?_)
                have O := OUT_trans O O'
                -- Tags.fail
                have r41 : (-2147483648 : Int) ≤ y40_0_8 ∧ y40_0_8 ≤ 2147483647 := by have h1 : (-2147483648 : Int) ≤ F40 0 8 ∧ F40 0 8 ≤ 2147483647 := H.krg 0 8 (by decide); rw [show F40 0 8 = y40_0_8 from ((eF40 0 8).trans ey40_0_8)] at h1; exact h1
                exact w_ireturn rfl (k (z40) _ _ _ _ _ _ _ H O (SD_trans (SD_refl) hD_13 (any_subA rfl)) (SD_trans (SD_refl) hN_13 (any_subA rfl)) (SF_trans (SF_trans (SF_trans (SF_trans (SF_trans (SF_trans (SF_refl) (SF_glu (ι := [0, 1, 2, 3]) hS8 eF8 (by decide +kernel)) (any_sub (l' := [(0, 3), (0, 4), (0, 5), (0, 6), (0, 8)]) rfl)) hS_13 (any_sub rfl)) hS_c66 (any_sub rfl)) hS_c88 (any_sub rfl)) hS_c119 (any_sub rfl)) (SF_glu (ι := [0]) hS40 eF40 (by decide +kernel)) (any_sub (l' := [(0, 8)]) rfl)) (SA_trans (SA_trans (SA_trans (SA_trans (SA_trans (SA_trans (SA_refl) (SA_glu (ι := [0, 1, 2, 3]) hA8 eA8 (by decide +kernel)) (any_subA (l' := []) rfl)) hA_13 (any_subA rfl)) hA_c66 (any_subA rfl)) hA_c88 (any_subA rfl)) hA_c119 (any_subA rfl)) (SA_glu (ι := [0]) hA40 eA40 (by decide +kernel)) (any_subA (l' := []) rfl)) (((((((show F40 2 0 = F_c119 2 0 from (eF40 2 0))).trans (hS_c119 2 0 rfl)).trans (hS_c88 2 0 rfl)).trans (hS_c66 2 0 rfl))).trans (pm13_4)) (m13_4) (em13_4) (y13_2_1) (((((((show F40 2 1 = F_c119 2 1 from (eF40 2 1))).trans (hS_c119 2 1 rfl)).trans (hS_c88 2 1 rfl)).trans (hS_c66 2 1 rfl)).trans (ey13_2_1))) (show inr (z40) by omega) (show 0 ≤ (z40) ∧ (z40) ≤ 12 by omega) (show 0 ≤ (y13_2_1) ∧ (y13_2_1) ≤ (m13_4) ∧ (m13_4) ≤ 65536 by omega))
            refine Ew_of (pc' := 89) (fun _ => x_aload_n rfl lc88_0) ?_
            refine v_g H (o := 0) (v := I (y8_0_4)) rfl rfl rfl rfl rfl (congrArg (fun z : Int => I z) (((((hS_c88 0 4 rfl).trans (hS_c66 0 4 rfl)).trans (hS_13 0 4 rfl)).trans ((eF8 0 4).trans ey8_0_4)) : F_c88 0 4 = y8_0_4)) ?_
            refine Ew_of (pc' := 94) (fun _ => x_iload rfl lc88_4) ?_
            refine w_isub rfl ?_
            refine Ew_of (pc' := 96) (fun _ => x_iconst rfl) ?_
            refine w_icmpge (t := 106) rfl rfl (show inr ((y8_0_4 - x13_4)) by omega) (show inr (4) by omega) (fun b42 => ?_) (fun b42 => ?_)
            · refine Ew_of (pc' := 107) (fun _ => x_aload_n rfl lc88_0) ?_
              refine v_g H (o := 0) (v := .ref (D_13 3)) rfl rfl rfl rfl rfl (vrf ((((hS_c88 0 3 rfl).trans (hS_c66 0 3 rfl))).trans (pf_13_0_3))) ?_
              refine Ew_of (pc' := 112) (fun _ => x_iload rfl lc88_4) ?_
              refine Ew_of (pc' := 113) (fun _ => x_iconst rfl) ?_
              refine w_iadd rfl ?_
              refine Ew_of (pc' := 115) (fun _ => x_iconst rfl) ?_
              refine w_stat25 rfl rfl (by rfl) (C42_Br (D := pul [3] D_13) (N := pul [3] N_13) (HW_sub H (VS_of (show vsub V210_Row_Row V42_Br [3] = true by decide +kernel))) (n3) ((congrArg (fun q : Nat => (q : Int)) (hN_13 3 rfl)).trans (en3)) (show inr ((x13_4 + 1)) by omega) (show inr (3) by omega) (show (3) ≤ 0 ∨ 0 ≤ ((x13_4 + 1)) ∧ ((x13_4 + 1)) + (3) ≤ (n3) by omega) (show 0 ≤ (3) by omega) (fun z43 σ43 F43' A43' H' O' hS43 hA43 pz43_0 pz43_1 => ⟨rfl, ?_⟩))
              refine v_back (c := c_13) (s := s_13) H (show vsub V210_Row_Row V42_Br [3] = true by decide +kernel) H' O' (fun F43 A43 H O' eF43 eA43 => ?_)
              have O := OUT_trans O O'
              -- PackHouse.number
              have hnb := nb3 pz43_1
              refine w_l2i rfl ?_
              exact hc119 (z43) _ _ _ _  (lc88_0) (lc88_4) (lc88_5) (lc88_6) H O (SF_trans (SF_refl) (SF_glu (ι := [3]) hS43 eF43 (by decide +kernel)) (any_sub (l' := []) rfl)) (SA_trans (SA_refl) (SA_glu (ι := [3]) hA43 eA43 (by decide +kernel)) (any_subA (l' := []) rfl))     (show inr (z43) by omega) (show 0 ≤ (z43) ∧ (z43) ≤ 16777215 by omega)
            · refine Ew_of (pc' := 100) (fun _ => x_aload_n rfl lc88_0) ?_
              refine v_g H (o := 0) (v := I (y8_0_4)) rfl rfl rfl rfl rfl (congrArg (fun z : Int => I z) (((((hS_c88 0 4 rfl).trans (hS_c66 0 4 rfl)).trans (hS_13 0 4 rfl)).trans ((eF8 0 4).trans ey8_0_4)) : F_c88 0 4 = y8_0_4)) ?_
              refine Ew_of (pc' := 119) (fun _ => x_goto rfl rfl) ?_
              exact hc119 (y8_0_4) _ _ _ _  (lc88_0) (lc88_4) (lc88_5) (lc88_6) H O (SF_refl) (SA_refl)     (show inr (y8_0_4) by omega) (show 0 ≤ (y8_0_4) ∧ (y8_0_4) ≤ 16777215 by omega)
          refine w_icmplt (t := 88) rfl rfl (show inr (z20) by omega) (show inr (2) by omega) (fun b44 => ?_) (fun b44 => ?_)
          · exact hc88  _ _ _ _  (lc66_0) (lc66_4) (lc66_5) (lc66_6) H O (SF_refl) (SA_refl)     (show ((z20) < (2)) ∨ ((z20) ≥ (2) ∧ (z20) > (127)) by omega)
          · refine Ew_of (pc' := 74) (fun _ => x_iload rfl lc66_6) ?_
            refine Ew_of (pc' := 76) (fun _ => x_bipush (z := 127) rfl (by decide)) ?_
            refine w_icmpgt (t := 88) rfl rfl (show inr (z20) by omega) (show inr (127) by omega) (fun b45 => ?_) (fun b45 => ?_)
            · exact hc88  _ _ _ _  (lc66_0) (lc66_4) (lc66_5) (lc66_6) H O (SF_refl) (SA_refl)     (show ((z20) < (2)) ∨ ((z20) ≥ (2) ∧ (z20) > (127)) by omega)
            · refine Ew_of (pc' := 80) (fun _ => x_aload_n rfl lc66_0) ?_
              refine Ew_of (pc' := 82) (fun _ => x_bipush (z := 9) rfl (by decide)) ?_
              refine Ew_of (pc' := 84) (fun _ => x_iload rfl lc66_4) ?_
              have r46 : (-2147483648 : Int) ≤ F_13 0 8 ∧ F_13 0 8 ≤ 2147483647 := by have h1 : (-2147483648 : Int) ≤ F_c66 0 8 ∧ F_c66 0 8 ≤ 2147483647 := H.krg 0 8 (by decide); rw [show F_c66 0 8 = F_13 0 8 from (hS_c66 0 8 rfl)] at h1; exact h1
              refine v_inv H (o := 0) rfl rfl rfl rfl rfl rfl (by rfl) (C203 (D := pul [0] D_13) (N := pul [0] N_13) (HW_sub H (VS_of (show vsub V210_Row_Row V203 [0] = true by decide +kernel))) (F_13 0 8) ((hS_c66 0 8 rfl)) (show inr (9) by omega) (show inr (x13_4) by omega) (fun z47 σ47 F47' A47' H' O' hS47 hA47 y47_0_8 ey47_0_8 pz47_0 pz47_1 pz47_2 => ⟨rfl, ?_⟩))
              refine v_back (c := c_13) (s := s_13) H (show vsub V210_Row_Row V203 [0] = true by decide +kernel) H' O' (fun F47 A47 H O' eF47 eA47 => ?_)
              have O := OUT_trans O O'
              -- Tags.fail
              have r48 : (-2147483648 : Int) ≤ y47_0_8 ∧ y47_0_8 ≤ 2147483647 := by have h1 : (-2147483648 : Int) ≤ F47 0 8 ∧ F47 0 8 ≤ 2147483647 := H.krg 0 8 (by decide); rw [show F47 0 8 = y47_0_8 from ((eF47 0 8).trans ey47_0_8)] at h1; exact h1
              exact w_ireturn rfl (k (z47) _ _ _ _ _ _ _ H O (SD_trans (SD_refl) hD_13 (any_subA rfl)) (SD_trans (SD_refl) hN_13 (any_subA rfl)) (SF_trans (SF_trans (SF_trans (SF_trans (SF_refl) (SF_glu (ι := [0, 1, 2, 3]) hS8 eF8 (by decide +kernel)) (any_sub (l' := [(0, 3), (0, 4), (0, 5), (0, 6), (0, 8)]) rfl)) hS_13 (any_sub rfl)) hS_c66 (any_sub rfl)) (SF_glu (ι := [0]) hS47 eF47 (by decide +kernel)) (any_sub (l' := [(0, 8)]) rfl)) (SA_trans (SA_trans (SA_trans (SA_trans (SA_refl) (SA_glu (ι := [0, 1, 2, 3]) hA8 eA8 (by decide +kernel)) (any_subA (l' := []) rfl)) hA_13 (any_subA rfl)) hA_c66 (any_subA rfl)) (SA_glu (ι := [0]) hA47 eA47 (by decide +kernel)) (any_subA (l' := []) rfl)) (((((show F47 2 0 = F_c66 2 0 from (eF47 2 0))).trans (hS_c66 2 0 rfl))).trans (pm13_4)) (m13_4) (em13_4) (y13_2_1) (((((show F47 2 1 = F_c66 2 1 from (eF47 2 1))).trans (hS_c66 2 1 rfl)).trans (ey13_2_1))) (show inr (z47) by omega) (show 0 ≤ (z47) ∧ (z47) ≤ 12 by omega) (show 0 ≤ (y13_2_1) ∧ (y13_2_1) ≤ (m13_4) ∧ (m13_4) ≤ 65536 by omega))
        refine w_ifne (t := 66) rfl rfl (show inr (x13_4) by omega) (fun b49 => ?_) (fun b49 => ?_)
        · exact hc66  _ _ _ _  (rk_o (l13_0) rfl rfl) (rk_o (l13_4) rfl rfl) (rk_o (l13_5) rfl rfl) (rk_s) H O (SF_refl) (SA_refl)     (show ((x13_4) ≠ (0)) ∨ ((x13_4) = (0) ∧ (z20) = (255)) by omega)
        · refine Ew_of (pc' := 51) (fun _ => x_iload rfl rk_s) ?_
          refine Ew_of (pc' := 54) (fun _ => x_sipush (z := 255) rfl (by decide)) ?_
          refine w_icmpeq (t := 66) rfl rfl (show inr (z20) by omega) (show inr (255) by omega) (fun b50 => ?_) (fun b50 => ?_)
          · exact hc66  _ _ _ _  (rk_o (l13_0) rfl rfl) (rk_o (l13_4) rfl rfl) (rk_o (l13_5) rfl rfl) (rk_s) H O (SF_refl) (SA_refl)     (show ((x13_4) ≠ (0)) ∨ ((x13_4) = (0) ∧ (z20) = (255)) by omega)
          · refine Ew_of (pc' := 58) (fun _ => x_aload_n rfl (rk_o (l13_0) rfl rfl)) ?_
            refine Ew_of (pc' := 60) (fun _ => x_bipush (z := 8) rfl (by decide)) ?_
            refine Ew_of (pc' := 62) (fun _ => x_iload rfl (rk_o (l13_4) rfl rfl)) ?_
            have r51 : (-2147483648 : Int) ≤ F_13 0 8 ∧ F_13 0 8 ≤ 2147483647 := by have h1 : (-2147483648 : Int) ≤ F_13 0 8 ∧ F_13 0 8 ≤ 2147483647 := H.krg 0 8 (by decide); rw [show F_13 0 8 = F_13 0 8 from rfl] at h1; exact h1
            refine v_inv H (o := 0) rfl rfl rfl rfl rfl rfl (by rfl) (C203 (D := pul [0] D_13) (N := pul [0] N_13) (HW_sub H (VS_of (show vsub V210_Row_Row V203 [0] = true by decide +kernel))) (F_13 0 8) (rfl) (show inr (8) by omega) (show inr (x13_4) by omega) (fun z52 σ52 F52' A52' H' O' hS52 hA52 y52_0_8 ey52_0_8 pz52_0 pz52_1 pz52_2 => ⟨rfl, ?_⟩))
            refine v_back (c := c_13) (s := s_13) H (show vsub V210_Row_Row V203 [0] = true by decide +kernel) H' O' (fun F52 A52 H O' eF52 eA52 => ?_)
            have O := OUT_trans O O'
            -- Tags.fail
            have r53 : (-2147483648 : Int) ≤ y52_0_8 ∧ y52_0_8 ≤ 2147483647 := by have h1 : (-2147483648 : Int) ≤ F52 0 8 ∧ F52 0 8 ≤ 2147483647 := H.krg 0 8 (by decide); rw [show F52 0 8 = y52_0_8 from ((eF52 0 8).trans ey52_0_8)] at h1; exact h1
            exact w_ireturn rfl (k (z52) _ _ _ _ _ _ _ H O (SD_trans (SD_refl) hD_13 (any_subA rfl)) (SD_trans (SD_refl) hN_13 (any_subA rfl)) (SF_trans (SF_trans (SF_trans (SF_refl) (SF_glu (ι := [0, 1, 2, 3]) hS8 eF8 (by decide +kernel)) (any_sub (l' := [(0, 3), (0, 4), (0, 5), (0, 6), (0, 8)]) rfl)) hS_13 (any_sub rfl)) (SF_glu (ι := [0]) hS52 eF52 (by decide +kernel)) (any_sub (l' := [(0, 8)]) rfl)) (SA_trans (SA_trans (SA_trans (SA_refl) (SA_glu (ι := [0, 1, 2, 3]) hA8 eA8 (by decide +kernel)) (any_subA (l' := []) rfl)) hA_13 (any_subA rfl)) (SA_glu (ι := [0]) hA52 eA52 (by decide +kernel)) (any_subA (l' := []) rfl)) ((((show F52 2 0 = F_13 2 0 from (eF52 2 0)))).trans (pm13_4)) (m13_4) (em13_4) (y13_2_1) ((((show F52 2 1 = F_13 2 1 from (eF52 2 1))).trans (ey13_2_1))) (show inr (z52) by omega) (show 0 ≤ (z52) ∧ (z52) ≤ 12 by omega) (show 0 ≤ (y13_2_1) ∧ (y13_2_1) ≤ (m13_4) ∧ (m13_4) ≤ 65536 by omega))
