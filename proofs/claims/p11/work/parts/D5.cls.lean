abbrev V213 : vV := []
/-- Tokens.areFlags:  -/
theorem C213 {σE : rS} {D N : Nat → Nat} {F : hF} {A : hA} {d c s : Nat} {Q : wQ} (H : HW V213 σE D N F A) {a1 : Int} (h0 : inr (a1)) (k : ∀ (z : Int) (σ : rS) (Fₚ : hF) (Aₚ : hA), HW V213 σ D N Fₚ Aₚ → OUT (V213).length D N σE c s D N σ c s → SF [] F Fₚ → SA [] A Aₚ → ((z) = 0 ∨ (z) = 1) → Q (some (I z)) σ c s) : Ew 213 (d + 0) 0 (rargs 0 [I a1]) [] σE c s Q := by
  have O := OUT_refl (n := (V213).length) (D := D) (N := N) (σ := σE) (c := c) (s := s)
  have HE := H
  refine Ew_of (pcₚ := 1) (fun _ => x_iload_n rfl rfl) ?_
  refine Ew_of (pcₚ := 3) (fun _ => x_bipush (z := -62) rfl (by decide)) ?_
  refine w_iand rfl (show inr (a1) by omega) (show inr ((-62)) by omega) (fun z1 gz1 gaz1 gbz1 => ?_)
  refine Ew_of (pcₚ := 6) (fun _ => x_bipush (z := 64) rfl (by decide)) ?_
  refine w_icmpne (t := 13) rfl rfl (show inr (z1) by omega) (show inr (64) by omega) (fun b2 => ?_) (fun b2 => ?_)
  · refine Ew_of (pcₚ := 14) (fun _ => x_iconst rfl) ?_
    exact w_ireturn rfl (k (0) _ _ _ H O (SF_refl) (SA_refl) (show (0) = 0 ∨ (0) = 1 by omega))
  · refine Ew_of (pcₚ := 10) (fun _ => x_iconst rfl) ?_
    refine Ew_of (pcₚ := 14) (fun _ => x_goto rfl rfl) ?_
    exact w_ireturn rfl (k (1) _ _ _ H O (SF_refl) (SA_refl) (show (1) = 0 ∨ (1) = 1 by omega))
abbrev V227 : vV := [(0, 11, [(4, 0), (4, 0), (4, 0), (4, 0), (4, 0), (0, 0), (4, 0), (0, 0), (0, 0), (0, 0), (0, 0), (0, 0), (0, 0)]), (1, 0, []), (0, 7, [(4, 0), (0, 0), (1, 0), (0, 0), (0, 0)]), (1, 0, [])]
/-- Tokens.unpackHead: this, this.in, this.result, this.result.bytes -/
theorem C227 {σE : rS} {D N : Nat → Nat} {F : hF} {A : hA} {d c s : Nat} {Q : wQ} (H : HW V227 σE D N F A) {a1 : Int} (pf1 : F 0 4 = (D 1 : Int)) (pf2 : F 0 6 = (D 2 : Int)) (pf3 : F 2 0 = (D 3 : Int)) (n1 : Int) (en1 : (N 1 : Int) = n1) (n3 : Int) (en3 : (N 3 : Int) = n3) (u0_5 : Int) (eu0_5 : F 0 5 = u0_5) (u0_8 : Int) (eu0_8 : F 0 8 = u0_8) (u0_9 : Int) (eu0_9 : F 0 9 = u0_9) (u0_10 : Int) (eu0_10 : F 0 10 = u0_10) (u0_12 : Int) (eu0_12 : F 0 12 = u0_12) (u2_1 : Int) (eu2_1 : F 2 1 = u2_1) (h0 : inr (a1)) (h1 : 0 ≤ (u0_5) ∧ (u0_5) ≤ (n1) ∧ (n1) ≤ 65536) (h2 : 0 ≤ (a1) ∧ (a1) + 4 ≤ (u0_5)) (h3 : 0 ≤ (u2_1) ∧ (u2_1) ≤ (n3) ∧ (n3) ≤ 65536) (k : ∀ (z : Int) (σ : rS) (Fₚ : hF) (Aₚ : hA), HW V227 σ D N Fₚ Aₚ → OUT (V227).length D N σE c s D N σ c s → SF [(0, 8), (0, 9), (0, 10), (0, 12)] F Fₚ → SA [] A Aₚ → ∀ y0_8 : Int, Fₚ 0 8 = y0_8 → ∀ y0_9 : Int, Fₚ 0 9 = y0_9 → ∀ y0_10 : Int, Fₚ 0 10 = y0_10 → ∀ y0_12 : Int, Fₚ 0 12 = y0_12 → (inr (z)) → (0 ≤ (z) ∧ (z) ≤ 6) → ((z) = 0 → (a1) + 7 ≤ (y0_12) ∧ (y0_12) ≤ (u0_5) ∧ (y0_10) = (u2_1) ∧ 0 ≤ (y0_9) ∧ (y0_9) ≤ 4194304) → ((z) = 0 → andI ((y0_8)) 8 = 0 ∨ (a1) + 14 ≤ (u0_5)) → Q (some (I z)) σ c s) : Ew 227 (d + 3) 0 (rargs 0 [.ref (D 0), I a1]) [] σE c s Q := by
  have O := OUT_refl (n := (V227).length) (D := D) (N := N) (σ := σE) (c := c) (s := s)
  have HE := H
  have r1 : (-2147483648 : Int) ≤ u0_5 ∧ u0_5 ≤ 2147483647 := by have h1 : (-2147483648 : Int) ≤ F 0 5 ∧ F 0 5 ≤ 2147483647 := H.krg 0 5 (by decide); rw [show F 0 5 = u0_5 from (eu0_5)] at h1; exact h1
  have r2 : (-2147483648 : Int) ≤ u0_8 ∧ u0_8 ≤ 2147483647 := by have h1 : (-2147483648 : Int) ≤ F 0 8 ∧ F 0 8 ≤ 2147483647 := H.krg 0 8 (by decide); rw [show F 0 8 = u0_8 from (eu0_8)] at h1; exact h1
  have r3 : (-2147483648 : Int) ≤ u0_9 ∧ u0_9 ≤ 2147483647 := by have h1 : (-2147483648 : Int) ≤ F 0 9 ∧ F 0 9 ≤ 2147483647 := H.krg 0 9 (by decide); rw [show F 0 9 = u0_9 from (eu0_9)] at h1; exact h1
  have r4 : (-2147483648 : Int) ≤ u0_10 ∧ u0_10 ≤ 2147483647 := by have h1 : (-2147483648 : Int) ≤ F 0 10 ∧ F 0 10 ≤ 2147483647 := H.krg 0 10 (by decide); rw [show F 0 10 = u0_10 from (eu0_10)] at h1; exact h1
  have r5 : (-2147483648 : Int) ≤ u0_12 ∧ u0_12 ≤ 2147483647 := by have h1 : (-2147483648 : Int) ≤ F 0 12 ∧ F 0 12 ≤ 2147483647 := H.krg 0 12 (by decide); rw [show F 0 12 = u0_12 from (eu0_12)] at h1; exact h1
  have r6 : (-2147483648 : Int) ≤ u2_1 ∧ u2_1 ≤ 2147483647 := by have h1 : (-2147483648 : Int) ≤ F 2 1 ∧ F 2 1 ≤ 2147483647 := H.krg 2 1 (by decide); rw [show F 2 1 = u2_1 from (eu2_1)] at h1; exact h1
  have r7 : (0 : Int) ≤ n1 ∧ n1 ≤ 1000000 := by have h1 := H.nle 1 (by decide); have h2 : (N 1 : Int) = n1 := en1; omega
  have r8 : (0 : Int) ≤ n3 ∧ n3 ≤ 1000000 := by have h1 := H.nle 3 (by decide); have h2 : (N 3 : Int) = n3 := en3; omega
  refine Ew_of (pcₚ := 1) (fun _ => x_aload_n rfl rfl) ?_
  refine v_g H (o := 0) (v := .ref (D 1)) rfl rfl rfl rfl rfl (vrf (pf1)) ?_
  refine Ew_of (pcₚ := 5) (fun _ => x_iload_n rfl rfl) ?_
  refine w_stat25 rfl rfl (by rfl) (C41_Br (D := pul [1] D) (N := pul [1] N) (HW_sub H (VS_of (show vsub V227 V41_Br [1] = true by decide +kernel))) (n1) (en1) (show inr (a1) by omega) (show 0 ≤ (a1) ∧ (a1) + 4 ≤ (n1) by omega) (fun z9 σ9 F9ₚ A9ₚ Hₚ Oₚ hS9 hA9 pz9_0 => ⟨rfl, ?_⟩))
  refine v_back (c := c) (s := s) H (show vsub V227 V41_Br [1] = true by decide +kernel) Hₚ Oₚ (fun F9 A9 H Oₚ eF9 eA9 => ?_)
  have O := OUT_trans O Oₚ
  -- PackHouse.word
  refine Ew_of (pcₚ := 10) (fun _ => x_ldc (z := 407708164) rfl (by decide)) ?_
  refine w_icmpeq (t := 20) rfl rfl (show inr (z9) by omega) (show inr (407708164) by omega) (fun b10 => ?_) (fun b10 => ?_)
  · refine Ew_of (pcₚ := 21) (fun _ => x_aload_n rfl rfl) ?_
    refine v_g H (o := 0) (v := I (u0_5)) rfl rfl rfl rfl rfl (congrArg (fun z : Int => I z) ((((show F9 0 5 = F 0 5 from (eF9 0 5))).trans (eu0_5)) : F9 0 5 = u0_5)) ?_
    refine Ew_of (pcₚ := 25) (fun _ => x_iload_n rfl rfl) ?_
    refine w_isub rfl ?_
    refine Ew_of (pcₚ := 27) (fun _ => x_iconst rfl) ?_
    refine w_icmpge (t := 40) rfl rfl (show inr ((u0_5 - a1)) by omega) (show inr (5) by omega) (fun b11 => ?_) (fun b11 => ?_)
    · refine Ew_of (pcₚ := 41) (fun _ => x_aload_n rfl rfl) ?_
      refine Ew_of (pcₚ := 42) (fun _ => x_aload_n rfl rfl) ?_
      refine v_g H (o := 0) (v := .ref (D 1)) rfl rfl rfl rfl rfl (vrf ((((show F9 0 4 = F 0 4 from (eF9 0 4)))).trans (pf1))) ?_
      refine Ew_of (pcₚ := 46) (fun _ => x_iload_n rfl rfl) ?_
      refine Ew_of (pcₚ := 47) (fun _ => x_iconst rfl) ?_
      refine w_iadd rfl ?_
      refine v_lB H (o := 1) rfl rfl rfl rfl (n := n1) (en1) (show 0 ≤ (a1 + 4) ∧ (a1 + 4) < n1 by omega) (fun v12 ev12 qv12 => ?_)
      have ev12 : (A 1) ((a1 + 4)) = v12 := (congrFun ((show A9 1 = A 1 from (eA9 1).trans (funext (hA9 0 rfl)))) ((a1 + 4))).symm.trans ev12
      refine Ew_of (pcₚ := 52) (fun _ => x_sipush (z := 255) rfl (by decide)) ?_
      refine w_iand rfl (show inr (v12) by omega) (show inr (255) by omega) (fun z13 gz13 gaz13 gbz13 => ?_)
      refine v_p H (o := 0) (z := z13) (v := I (z13)) rfl rfl rfl rfl rfl rfl rfl rfl (show (-2147483648 : Int) ≤ z13 ∧ z13 ≤ 2147483647 by omega) (fun σ H Oₚ => ?_)
      have O := OUT_trans O Oₚ
      refine Ew_of (pcₚ := 57) (fun _ => x_aload_n rfl rfl) ?_
      refine v_g H (o := 0) (v := I (z13)) rfl rfl rfl rfl rfl (congrArg (fun z : Int => I z) (rfl : (updF F9 0 8 (z13)) 0 8 = z13)) ?_
      refine w_stat24 rfl rfl (by rfl) (C213 (D := pul [] D) (N := pul [] N) (HW_sub H (VS_of (show vsub V227 V213 [] = true by decide +kernel))) (show inr (z13) by omega) (fun z14 σ14 F14ₚ A14ₚ Hₚ Oₚ hS14 hA14 pz14_0 => ⟨rretB rfl pz14_0, ?_⟩))
      refine v_back (c := c) (s := s) H (show vsub V227 V213 [] = true by decide +kernel) Hₚ Oₚ (fun F14 A14 H Oₚ eF14 eA14 => ?_)
      have O := OUT_trans O Oₚ
      -- Tokens.areFlags
      refine w_ifne (t := 75) rfl rfl (show inr (z14) by omega) (fun b15 => ?_) (fun b15 => ?_)
      · refine Ew_of (pcₚ := 76) (fun _ => x_aload_n rfl rfl) ?_
        refine v_g H (o := 0) (v := I (u0_5)) rfl rfl rfl rfl rfl (congrArg (fun z : Int => I z) (((((show F14 0 5 = (updF F9 0 8 (z13)) 0 5 from (eF14 0 5))).trans ((show F9 0 5 = F 0 5 from (eF9 0 5)))).trans (eu0_5)) : F14 0 5 = u0_5)) ?_
        refine Ew_of (pcₚ := 80) (fun _ => x_iload_n rfl rfl) ?_
        refine w_isub rfl ?_
        refine Ew_of (pcₚ := 83) (fun _ => x_bipush (z := 6) rfl (by decide)) ?_
        refine w_icmpge (t := 96) rfl rfl (show inr ((u0_5 - a1)) by omega) (show inr (6) by omega) (fun b16 => ?_) (fun b16 => ?_)
        · refine Ew_of (pcₚ := 97) (fun _ => x_aload_n rfl rfl) ?_
          refine v_g H (o := 0) (v := .ref (D 1)) rfl rfl rfl rfl rfl (vrf (((((show F14 0 4 = (updF F9 0 8 (z13)) 0 4 from (eF14 0 4))).trans ((show F9 0 4 = F 0 4 from (eF9 0 4))))).trans (pf1))) ?_
          refine Ew_of (pcₚ := 101) (fun _ => x_iload_n rfl rfl) ?_
          refine Ew_of (pcₚ := 102) (fun _ => x_iconst rfl) ?_
          refine w_iadd rfl ?_
          refine v_lB H (o := 1) rfl rfl rfl rfl (n := n1) (en1) (show 0 ≤ (a1 + 5) ∧ (a1 + 5) < n1 by omega) (fun v17 ev17 qv17 => ?_)
          have ev17 : (A 1) ((a1 + 5)) = v17 := (congrFun (((show A14 1 = A9 1 from (eA14 1))).trans ((show A9 1 = A 1 from (eA9 1).trans (funext (hA9 0 rfl))))) ((a1 + 5))).symm.trans ev17
          refine Ew_of (pcₚ := 107) (fun _ => x_sipush (z := 255) rfl (by decide)) ?_
          refine w_iand rfl (show inr (v17) by omega) (show inr (255) by omega) (fun z18 gz18 gaz18 gbz18 => ?_)
          refine Ew_of (pcₚ := 109) (fun _ => x_iconst rfl) ?_
          refine w_ishrK 4 16 (by decide) (by decide) rfl (show inr (z18) by omega) (fun z19 gz19 dz19 => ?_)
          refine Ew_of (pcₚ := 111) (fun _ => x_istore_n rfl) ?_
          refine Ew_of (pcₚ := 112) (fun _ => x_aload_n rfl (rk_o (rfl) rfl rfl)) ?_
          refine v_g H (o := 0) (v := .ref (D 1)) rfl rfl rfl rfl rfl (vrf (((((show F14 0 4 = (updF F9 0 8 (z13)) 0 4 from (eF14 0 4))).trans ((show F9 0 4 = F 0 4 from (eF9 0 4))))).trans (pf1))) ?_
          refine Ew_of (pcₚ := 116) (fun _ => x_iload_n rfl (rk_o (rfl) rfl rfl)) ?_
          refine Ew_of (pcₚ := 117) (fun _ => x_iconst rfl) ?_
          refine w_iadd rfl ?_
          refine v_lB H (o := 1) rfl rfl rfl rfl (n := n1) (en1) (show 0 ≤ (a1 + 5) ∧ (a1 + 5) < n1 by omega) (fun v20 ev20 qv20 => ?_)
          have ev20 : (A 1) ((a1 + 5)) = v20 := (congrFun (((show A14 1 = A9 1 from (eA14 1))).trans ((show A9 1 = A 1 from (eA9 1).trans (funext (hA9 0 rfl))))) ((a1 + 5))).symm.trans ev20
          refine Ew_of (pcₚ := 121) (fun _ => x_bipush (z := 15) rfl (by decide)) ?_
          refine w_iand rfl (show inr (v20) by omega) (show inr (15) by omega) (fun z21 gz21 gaz21 gbz21 => ?_)
          have hc136 : ∀ (ls : rO) (σ : rS) (F_c136 : hF) (A_c136 : hA) , rlook ls 0 = some (.ref (D 0)) → rlook ls 1 = some (I (a1)) → HW V227 σ D N F_c136 A_c136 → OUT (V227).length D N σE c s D N σ c s → SF [] F14 F_c136 → SA [] A14 A_c136 → (((z21) ≠ (0)) ∨ ((z21) = (0) ∧ (z19) < (4)) ∨ ((z21) = (0) ∧ (z19) ≥ (4) ∧ (z19) > (7))) → Ew 227 (d + 3) 136 ls [] σ c s Q := by
           as_aux_lemma =>
            intro  ls σ F_c136 A_c136  lc136_0 lc136_1 H O hS_c136 hA_c136     jc136_0
            refine Ew_of (pcₚ := 137) (fun _ => x_aload_n rfl lc136_0) ?_
            refine Ew_of (pcₚ := 138) (fun _ => x_iconst rfl) ?_
            refine Ew_of (pcₚ := 139) (fun _ => x_iload_n rfl lc136_1) ?_
            refine Ew_of (pcₚ := 140) (fun _ => x_iconst rfl) ?_
            refine w_iadd rfl ?_
            refine v_inv H (o := 0) rfl rfl rfl rfl rfl rfl (by rfl) (C221 (D := pul [0] D) (N := pul [0] N) (HW_sub H (VS_of (show vsub V227 V221 [0] = true by decide +kernel))) (u0_12) (((((hS_c136 0 12 rfl).trans ((show F14 0 12 = (updF F9 0 8 (z13)) 0 12 from (eF14 0 12)))).trans ((show F9 0 12 = F 0 12 from (eF9 0 12)))).trans (eu0_12))) (show inr (5) by omega) (show inr ((a1 + 5)) by omega) (fun z22 σ22 F22ₚ A22ₚ Hₚ Oₚ hS22 hA22 y22_0_12 ey22_0_12 pz22_0 pz22_1 pz22_2 => ⟨rfl, ?_⟩))
            refine v_back (c := c) (s := s) H (show vsub V227 V221 [0] = true by decide +kernel) Hₚ Oₚ (fun F22 A22 H Oₚ eF22 eA22 => ?_)
            have O := OUT_trans O Oₚ
            -- Tokens.fail
            have r23 : (-2147483648 : Int) ≤ y22_0_12 ∧ y22_0_12 ≤ 2147483647 := by have h1 : (-2147483648 : Int) ≤ F22 0 12 ∧ F22 0 12 ≤ 2147483647 := H.krg 0 12 (by decide); rw [show F22 0 12 = y22_0_12 from ((eF22 0 12).trans ey22_0_12)] at h1; exact h1
            exact w_ireturn rfl (k (z22) _ _ _ H O (SF_trans (SF_trans (SF_trans (SF_upd (SF_trans (SF_refl) (SF_glu (ι := [1]) hS9 eF9 (by decide +kernel)) (any_sub (lₚ := []) rfl)) rfl) (SF_glu (ι := []) hS14 eF14 (by decide +kernel)) (any_sub (lₚ := []) rfl)) hS_c136 (any_sub rfl)) (SF_glu (ι := [0]) hS22 eF22 (by decide +kernel)) (any_sub (lₚ := [(0, 12)]) rfl)) (SA_trans (SA_trans (SA_trans (SA_trans (SA_refl) (SA_glu (ι := [1]) hA9 eA9 (by decide +kernel)) (any_subA (lₚ := []) rfl)) (SA_glu (ι := []) hA14 eA14 (by decide +kernel)) (any_subA (lₚ := []) rfl)) hA_c136 (any_subA rfl)) (SA_glu (ι := [0]) hA22 eA22 (by decide +kernel)) (any_subA (lₚ := []) rfl)) (z13) (((((show F22 0 8 = F_c136 0 8 from (eF22 0 8).trans (hS22 0 8 rfl))).trans (hS_c136 0 8 rfl)).trans ((show F14 0 8 = (updF F9 0 8 (z13)) 0 8 from (eF14 0 8))))) (u0_9) (((((((show F22 0 9 = F_c136 0 9 from (eF22 0 9).trans (hS22 0 9 rfl))).trans (hS_c136 0 9 rfl)).trans ((show F14 0 9 = (updF F9 0 8 (z13)) 0 9 from (eF14 0 9)))).trans ((show F9 0 9 = F 0 9 from (eF9 0 9)))).trans (eu0_9))) (u0_10) (((((((show F22 0 10 = F_c136 0 10 from (eF22 0 10).trans (hS22 0 10 rfl))).trans (hS_c136 0 10 rfl)).trans ((show F14 0 10 = (updF F9 0 8 (z13)) 0 10 from (eF14 0 10)))).trans ((show F9 0 10 = F 0 10 from (eF9 0 10)))).trans (eu0_10))) (y22_0_12) (((eF22 0 12).trans ey22_0_12)) (show inr (z22) by omega) (show 0 ≤ (z22) ∧ (z22) ≤ 6 by omega) (show (z22) = 0 → a1 + 7 ≤ (y22_0_12) ∧ (y22_0_12) ≤ (u0_5) ∧ (u0_10) = (u2_1) ∧ 0 ≤ (u0_9) ∧ (u0_9) ≤ 4194304 by omega) (show (z22) = 0 → andI ((z13)) 8 = 0 ∨ a1 + 14 ≤ (u0_5) by omega))
          refine w_ifne (t := 136) rfl rfl (show inr (z21) by omega) (fun b24 => ?_) (fun b24 => ?_)
          · exact hc136  _ _ _ _  (rk_o (rfl) rfl rfl) (rk_o (rfl) rfl rfl) H O (SF_refl) (SA_refl)     (show ((z21) ≠ (0)) ∨ ((z21) = (0) ∧ (z19) < (4)) ∨ ((z21) = (0) ∧ (z19) ≥ (4) ∧ (z19) > (7)) by omega)
          · refine Ew_of (pcₚ := 126) (fun _ => x_iload_n rfl rk_s) ?_
            refine Ew_of (pcₚ := 127) (fun _ => x_iconst rfl) ?_
            refine w_icmplt (t := 136) rfl rfl (show inr (z19) by omega) (show inr (4) by omega) (fun b25 => ?_) (fun b25 => ?_)
            · exact hc136  _ _ _ _  (rk_o (rfl) rfl rfl) (rk_o (rfl) rfl rfl) H O (SF_refl) (SA_refl)     (show ((z21) ≠ (0)) ∨ ((z21) = (0) ∧ (z19) < (4)) ∨ ((z21) = (0) ∧ (z19) ≥ (4) ∧ (z19) > (7)) by omega)
            · refine Ew_of (pcₚ := 131) (fun _ => x_iload_n rfl rk_s) ?_
              refine Ew_of (pcₚ := 133) (fun _ => x_bipush (z := 7) rfl (by decide)) ?_
              refine w_icmple (t := 145) rfl rfl (show inr (z19) by omega) (show inr (7) by omega) (fun b26 => ?_) (fun b26 => ?_)
              · refine Ew_of (pcₚ := 146) (fun _ => x_iload_n rfl (rk_o (rfl) rfl rfl)) ?_
                refine Ew_of (pcₚ := 148) (fun _ => x_bipush (z := 6) rfl (by decide)) ?_
                refine w_iadd rfl ?_
                refine Ew_of (pcₚ := 150) (fun _ => x_aload_n rfl (rk_o (rfl) rfl rfl)) ?_
                refine v_g H (o := 0) (v := I (z13)) rfl rfl rfl rfl rfl (congrArg (fun z : Int => I z) (((show F14 0 8 = (updF F9 0 8 (z13)) 0 8 from (eF14 0 8))) : F14 0 8 = z13)) ?_
                refine Ew_of (pcₚ := 155) (fun _ => x_bipush (z := 8) rfl (by decide)) ?_
                refine w_iandE rfl (show inr (z13) by omega) (show inr (8) by omega) (fun z27 gz27 gaz27 gbz27 gez27 => ?_)
                refine w_ifeq (t := 164) rfl rfl (show inr (z27) by omega) (fun b28 => ?_) (fun b28 => ?_)
                · refine Ew_of (pcₚ := 165) (fun _ => x_iconst rfl) ?_
                  refine w_iadd rfl ?_
                  refine Ew_of (pcₚ := 167) (fun _ => x_aload_n rfl (rk_o (rfl) rfl rfl)) ?_
                  refine v_g H (o := 0) (v := I (z13)) rfl rfl rfl rfl rfl (congrArg (fun z : Int => I z) (((show F14 0 8 = (updF F9 0 8 (z13)) 0 8 from (eF14 0 8))) : F14 0 8 = z13)) ?_
                  refine Ew_of (pcₚ := 171) (fun _ => x_iconst rfl) ?_
                  refine w_iand rfl (show inr (z13) by omega) (show inr (1) by omega) (fun z29 gz29 gaz29 gbz29 => ?_)
                  have hc180 : ∀ (tc180_0 : Int), ∀ (ls : rO) (σ : rS) (F_c180 : hF) (A_c180 : hA) , rlook ls 0 = some (.ref (D 0)) → rlook ls 1 = some (I (a1)) → rlook ls 2 = some (I (z19)) → HW V227 σ D N F_c180 A_c180 → OUT (V227).length D N σE c s D N σ c s → SF [] F14 F_c180 → SA [] A14 A_c180 → (inr (tc180_0)) → (((z29) = (0) ∧ (tc180_0) = (0)) ∨ ((z29) ≠ (0) ∧ (tc180_0) = (4))) → Ew 227 (d + 3) 180 ls [I (tc180_0), I (((a1 + 6) + 0))] σ c s Q := by
                   as_aux_lemma =>
                    intro tc180_0 ls σ F_c180 A_c180  lc180_0 lc180_1 lc180_2 H O hS_c180 hA_c180     jc180_0 jc180_1
                    refine w_iadd rfl ?_
                    refine Ew_of (pcₚ := 182) (fun _ => x_istore_n rfl) ?_
                    refine Ew_of (pcₚ := 183) (fun _ => x_iload_n rfl rk_s) ?_
                    refine Ew_of (pcₚ := 184) (fun _ => x_aload_n rfl (rk_o (lc180_0) rfl rfl)) ?_
                    refine v_g H (o := 0) (v := I (u0_5)) rfl rfl rfl rfl rfl (congrArg (fun z : Int => I z) (((((hS_c180 0 5 rfl).trans ((show F14 0 5 = (updF F9 0 8 (z13)) 0 5 from (eF14 0 5)))).trans ((show F9 0 5 = F 0 5 from (eF9 0 5)))).trans (eu0_5)) : F_c180 0 5 = u0_5)) ?_
                    refine w_icmplt (t := 200) rfl rfl (show inr ((((a1 + 6) + 0) + tc180_0)) by omega) (show inr (u0_5) by omega) (fun b30 => ?_) (fun b30 => ?_)
                    · refine Ew_of (pcₚ := 201) (fun _ => x_aload_n rfl (rk_o (lc180_0) rfl rfl)) ?_
                      refine v_g H (o := 0) (v := .ref (D 1)) rfl rfl rfl rfl rfl (vrf (((((hS_c180 0 4 rfl).trans ((show F14 0 4 = (updF F9 0 8 (z13)) 0 4 from (eF14 0 4)))).trans ((show F9 0 4 = F 0 4 from (eF9 0 4))))).trans (pf1))) ?_
                      refine Ew_of (pcₚ := 205) (fun _ => x_iload_n rfl rk_s) ?_
                      refine v_lB H (o := 1) rfl rfl rfl rfl (n := n1) (en1) (show 0 ≤ (((a1 + 6) + 0) + tc180_0) ∧ (((a1 + 6) + 0) + tc180_0) < n1 by omega) (fun v31 ev31 qv31 => ?_)
                      have ev31 : (A 1) ((((a1 + 6) + 0) + tc180_0)) = v31 := (congrFun ((funext (hA_c180 1 rfl)).trans (((show A14 1 = A9 1 from (eA14 1))).trans ((show A9 1 = A 1 from (eA9 1).trans (funext (hA9 0 rfl)))))) ((((a1 + 6) + 0) + tc180_0))).symm.trans ev31
                      refine Ew_of (pcₚ := 209) (fun _ => x_sipush (z := 255) rfl (by decide)) ?_
                      refine w_iand rfl (show inr (v31) by omega) (show inr (255) by omega) (fun z32 gz32 gaz32 gbz32 => ?_)
                      refine Ew_of (pcₚ := 211) (fun _ => x_aload_n rfl (rk_o (lc180_0) rfl rfl)) ?_
                      refine v_g H (o := 0) (v := .ref (D 1)) rfl rfl rfl rfl rfl (vrf (((((hS_c180 0 4 rfl).trans ((show F14 0 4 = (updF F9 0 8 (z13)) 0 4 from (eF14 0 4)))).trans ((show F9 0 4 = F 0 4 from (eF9 0 4))))).trans (pf1))) ?_
                      refine Ew_of (pcₚ := 215) (fun _ => x_iload_n rfl (rk_o (lc180_1) rfl rfl)) ?_
                      refine Ew_of (pcₚ := 216) (fun _ => x_iconst rfl) ?_
                      refine w_iadd rfl ?_
                      refine Ew_of (pcₚ := 218) (fun _ => x_iload_n rfl rk_s) ?_
                      refine Ew_of (pcₚ := 219) (fun _ => x_iconst rfl) ?_
                      refine w_stat25 rfl rfl (by rfl) (C49_Br (D := pul [1] D) (N := pul [1] N) (HW_sub H (VS_of (show vsub V227 V49_Br [1] = true by decide +kernel))) (n1) (en1) (show inr ((a1 + 4)) by omega) (show inr ((((a1 + 6) + 0) + tc180_0)) by omega) (show inr (0) by omega) (show 0 ≤ ((a1 + 4)) ∧ ((a1 + 4)) ≤ ((((a1 + 6) + 0) + tc180_0)) ∧ ((((a1 + 6) + 0) + tc180_0)) ≤ (n1) by omega) (fun z33 σ33 F33ₚ A33ₚ Hₚ Oₚ hS33 hA33 pz33_0 => ⟨rfl, ?_⟩))
                      refine v_back (c := c) (s := s) H (show vsub V227 V49_Br [1] = true by decide +kernel) Hₚ Oₚ (fun F33 A33 H Oₚ eF33 eA33 => ?_)
                      have O := OUT_trans O Oₚ
                      -- PackHouse.narrowSum
                      refine Ew_of (pcₚ := 224) (fun _ => x_bipush (z := 8) rfl (by decide)) ?_
                      refine w_iushrA rfl (fun z34 gz34 => ?_)
                      refine Ew_of (pcₚ := 228) (fun _ => x_sipush (z := 255) rfl (by decide)) ?_
                      refine w_iand rfl (show inr (z34) by omega) (show inr (255) by omega) (fun z35 gz35 gaz35 gbz35 => ?_)
                      refine w_icmpeq (t := 240) rfl rfl (show inr (z32) by omega) (show inr (z35) by omega) (fun b36 => ?_) (fun b36 => ?_)
                      · refine Ew_of (pcₚ := 241) (fun _ => x_aload_n rfl (rk_o (lc180_0) rfl rfl)) ?_
                        refine Ew_of (pcₚ := 242) (fun _ => x_iconst rfl) ?_
                        refine Ew_of (pcₚ := 244) (fun _ => x_bipush (z := 8) rfl (by decide)) ?_
                        refine Ew_of (pcₚ := 245) (fun _ => x_iconst rfl) ?_
                        refine Ew_of (pcₚ := 246) (fun _ => x_iload_n rfl (rk_o (lc180_2) rfl rfl)) ?_
                        refine w_imul rfl ?_
                        refine w_iadd rfl ?_
                        have hp16 : p2 (((8 + (2 * z19)))) ≤ p2 22 := p2_mono (by omega)
                        have : p2 22 = 4194304 := by decide
                        have := p2_pos (((8 + (2 * z19))))
                        refine w_ishl1 rfl (show 0 ≤ (8 + (2 * z19)) ∧ (8 + (2 * z19)) ≤ 31 by omega) ?_
                        refine v_p H (o := 0) (z := p2 ((8 + (2 * z19)))) (v := I (p2 ((8 + (2 * z19))))) rfl rfl rfl rfl rfl rfl rfl rfl (show (-2147483648 : Int) ≤ p2 ((8 + (2 * z19))) ∧ p2 ((8 + (2 * z19))) ≤ 2147483647 by omega) (fun σ H Oₚ => ?_)
                        have O := OUT_trans O Oₚ
                        refine Ew_of (pcₚ := 253) (fun _ => x_aload_n rfl (rk_o (lc180_0) rfl rfl)) ?_
                        refine Ew_of (pcₚ := 254) (fun _ => x_aload_n rfl (rk_o (lc180_0) rfl rfl)) ?_
                        refine v_g H (o := 0) (v := .ref (D 2)) rfl rfl rfl rfl rfl (vrf (((((((show F33 0 6 = F_c180 0 6 from (eF33 0 6))).trans (hS_c180 0 6 rfl)).trans ((show F14 0 6 = (updF F9 0 8 (z13)) 0 6 from (eF14 0 6)))).trans ((show F9 0 6 = F 0 6 from (eF9 0 6))))).trans (pf2))) ?_
                        refine v_g H (o := 2) (v := I (u2_1)) rfl rfl rfl rfl rfl (congrArg (fun z : Int => I z) (((((((show F33 2 1 = F_c180 2 1 from (eF33 2 1))).trans (hS_c180 2 1 rfl)).trans ((show F14 2 1 = (updF F9 0 8 (z13)) 2 1 from (eF14 2 1)))).trans ((show F9 2 1 = F 2 1 from (eF9 2 1)))).trans (eu2_1)) : (updF F33 0 9 (p2 ((8 + (2 * z19))))) 2 1 = u2_1)) ?_
                        refine v_p H (o := 0) (z := u2_1) (v := I (u2_1)) rfl rfl rfl rfl rfl rfl rfl rfl (show (-2147483648 : Int) ≤ u2_1 ∧ u2_1 ≤ 2147483647 by omega) (fun σ H Oₚ => ?_)
                        have O := OUT_trans O Oₚ
                        refine Ew_of (pcₚ := 264) (fun _ => x_aload_n rfl (rk_o (lc180_0) rfl rfl)) ?_
                        refine Ew_of (pcₚ := 265) (fun _ => x_iconst rfl) ?_
                        refine Ew_of (pcₚ := 266) (fun _ => x_iload_n rfl rk_s) ?_
                        refine Ew_of (pcₚ := 267) (fun _ => x_iconst rfl) ?_
                        refine w_iadd rfl ?_
                        refine v_inv H (o := 0) rfl rfl rfl rfl rfl rfl (by rfl) (C221 (D := pul [0] D) (N := pul [0] N) (HW_sub H (VS_of (show vsub V227 V221 [0] = true by decide +kernel))) (u0_12) (((((((show F33 0 12 = F_c180 0 12 from (eF33 0 12))).trans (hS_c180 0 12 rfl)).trans ((show F14 0 12 = (updF F9 0 8 (z13)) 0 12 from (eF14 0 12)))).trans ((show F9 0 12 = F 0 12 from (eF9 0 12)))).trans (eu0_12))) (show inr (0) by omega) (show inr (((((a1 + 6) + 0) + tc180_0) + 1)) by omega) (fun z38 σ38 F38ₚ A38ₚ Hₚ Oₚ hS38 hA38 y38_0_12 ey38_0_12 pz38_0 pz38_1 pz38_2 => ⟨rfl, ?_⟩))
                        refine v_back (c := c) (s := s) H (show vsub V227 V221 [0] = true by decide +kernel) Hₚ Oₚ (fun F38 A38 H Oₚ eF38 eA38 => ?_)
                        have O := OUT_trans O Oₚ
                        -- Tokens.fail
                        have r39 : (-2147483648 : Int) ≤ y38_0_12 ∧ y38_0_12 ≤ 2147483647 := by have h1 : (-2147483648 : Int) ≤ F38 0 12 ∧ F38 0 12 ≤ 2147483647 := H.krg 0 12 (by decide); rw [show F38 0 12 = y38_0_12 from ((eF38 0 12).trans ey38_0_12)] at h1; exact h1
                        exact w_ireturn rfl (k (z38) _ _ _ H O (SF_trans (SF_upd (SF_upd (SF_trans (SF_trans (SF_trans (SF_upd (SF_trans (SF_refl) (SF_glu (ι := [1]) hS9 eF9 (by decide +kernel)) (any_sub (lₚ := []) rfl)) rfl) (SF_glu (ι := []) hS14 eF14 (by decide +kernel)) (any_sub (lₚ := []) rfl)) hS_c180 (any_sub rfl)) (SF_glu (ι := [1]) hS33 eF33 (by decide +kernel)) (any_sub (lₚ := []) rfl)) rfl) rfl) (SF_glu (ι := [0]) hS38 eF38 (by decide +kernel)) (any_sub (lₚ := [(0, 12)]) rfl)) (SA_trans (SA_trans (SA_trans (SA_trans (SA_trans (SA_refl) (SA_glu (ι := [1]) hA9 eA9 (by decide +kernel)) (any_subA (lₚ := []) rfl)) (SA_glu (ι := []) hA14 eA14 (by decide +kernel)) (any_subA (lₚ := []) rfl)) hA_c180 (any_subA rfl)) (SA_glu (ι := [1]) hA33 eA33 (by decide +kernel)) (any_subA (lₚ := []) rfl)) (SA_glu (ι := [0]) hA38 eA38 (by decide +kernel)) (any_subA (lₚ := []) rfl)) (z13) ((((((show F38 0 8 = (updF (updF F33 0 9 (p2 ((8 + (2 * z19))))) 0 10 (u2_1)) 0 8 from (eF38 0 8).trans (hS38 0 8 rfl))).trans ((show F33 0 8 = F_c180 0 8 from (eF33 0 8)))).trans (hS_c180 0 8 rfl)).trans ((show F14 0 8 = (updF F9 0 8 (z13)) 0 8 from (eF14 0 8))))) (p2 ((8 + (2 * z19)))) (((show F38 0 9 = (updF (updF F33 0 9 (p2 ((8 + (2 * z19))))) 0 10 (u2_1)) 0 9 from (eF38 0 9).trans (hS38 0 9 rfl)))) (u2_1) (((show F38 0 10 = (updF (updF F33 0 9 (p2 ((8 + (2 * z19))))) 0 10 (u2_1)) 0 10 from (eF38 0 10).trans (hS38 0 10 rfl)))) (y38_0_12) (((eF38 0 12).trans ey38_0_12)) (show inr (z38) by omega) (show 0 ≤ (z38) ∧ (z38) ≤ 6 by omega) (show (z38) = 0 → a1 + 7 ≤ (y38_0_12) ∧ (y38_0_12) ≤ (u0_5) ∧ (u2_1) = (u2_1) ∧ 0 ≤ (p2 ((8 + (2 * z19)))) ∧ (p2 ((8 + (2 * z19)))) ≤ 4194304 by omega) (show (z38) = 0 → andI ((z13)) 8 = 0 ∨ a1 + 14 ≤ (u0_5) by omega))
                      · refine Ew_of (pcₚ := 233) (fun _ => x_aload_n rfl (rk_o (lc180_0) rfl rfl)) ?_
                        refine Ew_of (pcₚ := 235) (fun _ => x_bipush (z := 6) rfl (by decide)) ?_
                        refine Ew_of (pcₚ := 236) (fun _ => x_iload_n rfl rk_s) ?_
                        refine v_inv H (o := 0) rfl rfl rfl rfl rfl rfl (by rfl) (C221 (D := pul [0] D) (N := pul [0] N) (HW_sub H (VS_of (show vsub V227 V221 [0] = true by decide +kernel))) (u0_12) (((((((show F33 0 12 = F_c180 0 12 from (eF33 0 12))).trans (hS_c180 0 12 rfl)).trans ((show F14 0 12 = (updF F9 0 8 (z13)) 0 12 from (eF14 0 12)))).trans ((show F9 0 12 = F 0 12 from (eF9 0 12)))).trans (eu0_12))) (show inr (6) by omega) (show inr ((((a1 + 6) + 0) + tc180_0)) by omega) (fun z40 σ40 F40ₚ A40ₚ Hₚ Oₚ hS40 hA40 y40_0_12 ey40_0_12 pz40_0 pz40_1 pz40_2 => ⟨rfl, ?_⟩))
                        refine v_back (c := c) (s := s) H (show vsub V227 V221 [0] = true by decide +kernel) Hₚ Oₚ (fun F40 A40 H Oₚ eF40 eA40 => ?_)
                        have O := OUT_trans O Oₚ
                        -- Tokens.fail
                        have r41 : (-2147483648 : Int) ≤ y40_0_12 ∧ y40_0_12 ≤ 2147483647 := by have h1 : (-2147483648 : Int) ≤ F40 0 12 ∧ F40 0 12 ≤ 2147483647 := H.krg 0 12 (by decide); rw [show F40 0 12 = y40_0_12 from ((eF40 0 12).trans ey40_0_12)] at h1; exact h1
                        exact w_ireturn rfl (k (z40) _ _ _ H O (SF_trans (SF_trans (SF_trans (SF_trans (SF_upd (SF_trans (SF_refl) (SF_glu (ι := [1]) hS9 eF9 (by decide +kernel)) (any_sub (lₚ := []) rfl)) rfl) (SF_glu (ι := []) hS14 eF14 (by decide +kernel)) (any_sub (lₚ := []) rfl)) hS_c180 (any_sub rfl)) (SF_glu (ι := [1]) hS33 eF33 (by decide +kernel)) (any_sub (lₚ := []) rfl)) (SF_glu (ι := [0]) hS40 eF40 (by decide +kernel)) (any_sub (lₚ := [(0, 12)]) rfl)) (SA_trans (SA_trans (SA_trans (SA_trans (SA_trans (SA_refl) (SA_glu (ι := [1]) hA9 eA9 (by decide +kernel)) (any_subA (lₚ := []) rfl)) (SA_glu (ι := []) hA14 eA14 (by decide +kernel)) (any_subA (lₚ := []) rfl)) hA_c180 (any_subA rfl)) (SA_glu (ι := [1]) hA33 eA33 (by decide +kernel)) (any_subA (lₚ := []) rfl)) (SA_glu (ι := [0]) hA40 eA40 (by decide +kernel)) (any_subA (lₚ := []) rfl)) (z13) ((((((show F40 0 8 = F33 0 8 from (eF40 0 8).trans (hS40 0 8 rfl))).trans ((show F33 0 8 = F_c180 0 8 from (eF33 0 8)))).trans (hS_c180 0 8 rfl)).trans ((show F14 0 8 = (updF F9 0 8 (z13)) 0 8 from (eF14 0 8))))) (u0_9) ((((((((show F40 0 9 = F33 0 9 from (eF40 0 9).trans (hS40 0 9 rfl))).trans ((show F33 0 9 = F_c180 0 9 from (eF33 0 9)))).trans (hS_c180 0 9 rfl)).trans ((show F14 0 9 = (updF F9 0 8 (z13)) 0 9 from (eF14 0 9)))).trans ((show F9 0 9 = F 0 9 from (eF9 0 9)))).trans (eu0_9))) (u0_10) ((((((((show F40 0 10 = F33 0 10 from (eF40 0 10).trans (hS40 0 10 rfl))).trans ((show F33 0 10 = F_c180 0 10 from (eF33 0 10)))).trans (hS_c180 0 10 rfl)).trans ((show F14 0 10 = (updF F9 0 8 (z13)) 0 10 from (eF14 0 10)))).trans ((show F9 0 10 = F 0 10 from (eF9 0 10)))).trans (eu0_10))) (y40_0_12) (((eF40 0 12).trans ey40_0_12)) (show inr (z40) by omega) (show 0 ≤ (z40) ∧ (z40) ≤ 6 by omega) (show (z40) = 0 → a1 + 7 ≤ (y40_0_12) ∧ (y40_0_12) ≤ (u0_5) ∧ (u0_10) = (u2_1) ∧ 0 ≤ (u0_9) ∧ (u0_9) ≤ 4194304 by omega) (show (z40) = 0 → andI ((z13)) 8 = 0 ∨ a1 + 14 ≤ (u0_5) by omega))
                    · refine Ew_of (pcₚ := 191) (fun _ => x_aload_n rfl (rk_o (lc180_0) rfl rfl)) ?_
                      refine Ew_of (pcₚ := 192) (fun _ => x_iconst rfl) ?_
                      refine Ew_of (pcₚ := 193) (fun _ => x_aload_n rfl (rk_o (lc180_0) rfl rfl)) ?_
                      refine v_g H (o := 0) (v := I (u0_5)) rfl rfl rfl rfl rfl (congrArg (fun z : Int => I z) (((((hS_c180 0 5 rfl).trans ((show F14 0 5 = (updF F9 0 8 (z13)) 0 5 from (eF14 0 5)))).trans ((show F9 0 5 = F 0 5 from (eF9 0 5)))).trans (eu0_5)) : F_c180 0 5 = u0_5)) ?_
                      refine v_inv H (o := 0) rfl rfl rfl rfl rfl rfl (by rfl) (C221 (D := pul [0] D) (N := pul [0] N) (HW_sub H (VS_of (show vsub V227 V221 [0] = true by decide +kernel))) (u0_12) (((((hS_c180 0 12 rfl).trans ((show F14 0 12 = (updF F9 0 8 (z13)) 0 12 from (eF14 0 12)))).trans ((show F9 0 12 = F 0 12 from (eF9 0 12)))).trans (eu0_12))) (show inr (1) by omega) (show inr (u0_5) by omega) (fun z42 σ42 F42ₚ A42ₚ Hₚ Oₚ hS42 hA42 y42_0_12 ey42_0_12 pz42_0 pz42_1 pz42_2 => ⟨rfl, ?_⟩))
                      refine v_back (c := c) (s := s) H (show vsub V227 V221 [0] = true by decide +kernel) Hₚ Oₚ (fun F42 A42 H Oₚ eF42 eA42 => ?_)
                      have O := OUT_trans O Oₚ
                      -- Tokens.fail
                      have r43 : (-2147483648 : Int) ≤ y42_0_12 ∧ y42_0_12 ≤ 2147483647 := by have h1 : (-2147483648 : Int) ≤ F42 0 12 ∧ F42 0 12 ≤ 2147483647 := H.krg 0 12 (by decide); rw [show F42 0 12 = y42_0_12 from ((eF42 0 12).trans ey42_0_12)] at h1; exact h1
                      exact w_ireturn rfl (k (z42) _ _ _ H O (SF_trans (SF_trans (SF_trans (SF_upd (SF_trans (SF_refl) (SF_glu (ι := [1]) hS9 eF9 (by decide +kernel)) (any_sub (lₚ := []) rfl)) rfl) (SF_glu (ι := []) hS14 eF14 (by decide +kernel)) (any_sub (lₚ := []) rfl)) hS_c180 (any_sub rfl)) (SF_glu (ι := [0]) hS42 eF42 (by decide +kernel)) (any_sub (lₚ := [(0, 12)]) rfl)) (SA_trans (SA_trans (SA_trans (SA_trans (SA_refl) (SA_glu (ι := [1]) hA9 eA9 (by decide +kernel)) (any_subA (lₚ := []) rfl)) (SA_glu (ι := []) hA14 eA14 (by decide +kernel)) (any_subA (lₚ := []) rfl)) hA_c180 (any_subA rfl)) (SA_glu (ι := [0]) hA42 eA42 (by decide +kernel)) (any_subA (lₚ := []) rfl)) (z13) (((((show F42 0 8 = F_c180 0 8 from (eF42 0 8).trans (hS42 0 8 rfl))).trans (hS_c180 0 8 rfl)).trans ((show F14 0 8 = (updF F9 0 8 (z13)) 0 8 from (eF14 0 8))))) (u0_9) (((((((show F42 0 9 = F_c180 0 9 from (eF42 0 9).trans (hS42 0 9 rfl))).trans (hS_c180 0 9 rfl)).trans ((show F14 0 9 = (updF F9 0 8 (z13)) 0 9 from (eF14 0 9)))).trans ((show F9 0 9 = F 0 9 from (eF9 0 9)))).trans (eu0_9))) (u0_10) (((((((show F42 0 10 = F_c180 0 10 from (eF42 0 10).trans (hS42 0 10 rfl))).trans (hS_c180 0 10 rfl)).trans ((show F14 0 10 = (updF F9 0 8 (z13)) 0 10 from (eF14 0 10)))).trans ((show F9 0 10 = F 0 10 from (eF9 0 10)))).trans (eu0_10))) (y42_0_12) (((eF42 0 12).trans ey42_0_12)) (show inr (z42) by omega) (show 0 ≤ (z42) ∧ (z42) ≤ 6 by omega) (show (z42) = 0 → a1 + 7 ≤ (y42_0_12) ∧ (y42_0_12) ≤ (u0_5) ∧ (u0_10) = (u2_1) ∧ 0 ≤ (u0_9) ∧ (u0_9) ≤ 4194304 by omega) (show (z42) = 0 → andI ((z13)) 8 = 0 ∨ a1 + 14 ≤ (u0_5) by omega))
                  refine w_ifeq (t := 179) rfl rfl (show inr (z29) by omega) (fun b44 => ?_) (fun b44 => ?_)
                  · refine Ew_of (pcₚ := 180) (fun _ => x_iconst rfl) ?_
                    exact hc180 (0) _ _ _ _  (rk_o (rfl) rfl rfl) (rk_o (rfl) rfl rfl) (rk_s) H O (SF_refl) (SA_refl)     (show inr (0) by omega) (show ((z29) = (0) ∧ (0) = (0)) ∨ ((z29) ≠ (0) ∧ (0) = (4)) by omega)
                  · refine Ew_of (pcₚ := 176) (fun _ => x_iconst rfl) ?_
                    refine Ew_of (pcₚ := 180) (fun _ => x_goto rfl rfl) ?_
                    exact hc180 (4) _ _ _ _  (rk_o (rfl) rfl rfl) (rk_o (rfl) rfl rfl) (rk_s) H O (SF_refl) (SA_refl)     (show inr (4) by omega) (show ((z29) = (0) ∧ (4) = (0)) ∨ ((z29) ≠ (0) ∧ (4) = (4)) by omega)
                · refine Ew_of (pcₚ := 161) (fun _ => x_bipush (z := 8) rfl (by decide)) ?_
                  refine Ew_of (pcₚ := 165) (fun _ => x_goto rfl rfl) ?_
                  refine w_iadd rfl ?_
                  refine Ew_of (pcₚ := 167) (fun _ => x_aload_n rfl (rk_o (rfl) rfl rfl)) ?_
                  refine v_g H (o := 0) (v := I (z13)) rfl rfl rfl rfl rfl (congrArg (fun z : Int => I z) (((show F14 0 8 = (updF F9 0 8 (z13)) 0 8 from (eF14 0 8))) : F14 0 8 = z13)) ?_
                  refine Ew_of (pcₚ := 171) (fun _ => x_iconst rfl) ?_
                  refine w_iand rfl (show inr (z13) by omega) (show inr (1) by omega) (fun z45 gz45 gaz45 gbz45 => ?_)
                  have hc180 : ∀ (tc180_0 : Int), ∀ (ls : rO) (σ : rS) (F_c180 : hF) (A_c180 : hA) , rlook ls 0 = some (.ref (D 0)) → rlook ls 1 = some (I (a1)) → rlook ls 2 = some (I (z19)) → HW V227 σ D N F_c180 A_c180 → OUT (V227).length D N σE c s D N σ c s → SF [] F14 F_c180 → SA [] A14 A_c180 → (inr (tc180_0)) → (((z45) = (0) ∧ (tc180_0) = (0)) ∨ ((z45) ≠ (0) ∧ (tc180_0) = (4))) → Ew 227 (d + 3) 180 ls [I (tc180_0), I (((a1 + 6) + 8))] σ c s Q := by
                   as_aux_lemma =>
                    intro tc180_0 ls σ F_c180 A_c180  lc180_0 lc180_1 lc180_2 H O hS_c180 hA_c180     jc180_0 jc180_1
                    refine w_iadd rfl ?_
                    refine Ew_of (pcₚ := 182) (fun _ => x_istore_n rfl) ?_
                    refine Ew_of (pcₚ := 183) (fun _ => x_iload_n rfl rk_s) ?_
                    refine Ew_of (pcₚ := 184) (fun _ => x_aload_n rfl (rk_o (lc180_0) rfl rfl)) ?_
                    refine v_g H (o := 0) (v := I (u0_5)) rfl rfl rfl rfl rfl (congrArg (fun z : Int => I z) (((((hS_c180 0 5 rfl).trans ((show F14 0 5 = (updF F9 0 8 (z13)) 0 5 from (eF14 0 5)))).trans ((show F9 0 5 = F 0 5 from (eF9 0 5)))).trans (eu0_5)) : F_c180 0 5 = u0_5)) ?_
                    refine w_icmplt (t := 200) rfl rfl (show inr ((((a1 + 6) + 8) + tc180_0)) by omega) (show inr (u0_5) by omega) (fun b46 => ?_) (fun b46 => ?_)
                    · refine Ew_of (pcₚ := 201) (fun _ => x_aload_n rfl (rk_o (lc180_0) rfl rfl)) ?_
                      refine v_g H (o := 0) (v := .ref (D 1)) rfl rfl rfl rfl rfl (vrf (((((hS_c180 0 4 rfl).trans ((show F14 0 4 = (updF F9 0 8 (z13)) 0 4 from (eF14 0 4)))).trans ((show F9 0 4 = F 0 4 from (eF9 0 4))))).trans (pf1))) ?_
                      refine Ew_of (pcₚ := 205) (fun _ => x_iload_n rfl rk_s) ?_
                      refine v_lB H (o := 1) rfl rfl rfl rfl (n := n1) (en1) (show 0 ≤ (((a1 + 6) + 8) + tc180_0) ∧ (((a1 + 6) + 8) + tc180_0) < n1 by omega) (fun v47 ev47 qv47 => ?_)
                      have ev47 : (A 1) ((((a1 + 6) + 8) + tc180_0)) = v47 := (congrFun ((funext (hA_c180 1 rfl)).trans (((show A14 1 = A9 1 from (eA14 1))).trans ((show A9 1 = A 1 from (eA9 1).trans (funext (hA9 0 rfl)))))) ((((a1 + 6) + 8) + tc180_0))).symm.trans ev47
                      refine Ew_of (pcₚ := 209) (fun _ => x_sipush (z := 255) rfl (by decide)) ?_
                      refine w_iand rfl (show inr (v47) by omega) (show inr (255) by omega) (fun z48 gz48 gaz48 gbz48 => ?_)
                      refine Ew_of (pcₚ := 211) (fun _ => x_aload_n rfl (rk_o (lc180_0) rfl rfl)) ?_
                      refine v_g H (o := 0) (v := .ref (D 1)) rfl rfl rfl rfl rfl (vrf (((((hS_c180 0 4 rfl).trans ((show F14 0 4 = (updF F9 0 8 (z13)) 0 4 from (eF14 0 4)))).trans ((show F9 0 4 = F 0 4 from (eF9 0 4))))).trans (pf1))) ?_
                      refine Ew_of (pcₚ := 215) (fun _ => x_iload_n rfl (rk_o (lc180_1) rfl rfl)) ?_
                      refine Ew_of (pcₚ := 216) (fun _ => x_iconst rfl) ?_
                      refine w_iadd rfl ?_
                      refine Ew_of (pcₚ := 218) (fun _ => x_iload_n rfl rk_s) ?_
                      refine Ew_of (pcₚ := 219) (fun _ => x_iconst rfl) ?_
                      refine w_stat25 rfl rfl (by rfl) (C49_Br (D := pul [1] D) (N := pul [1] N) (HW_sub H (VS_of (show vsub V227 V49_Br [1] = true by decide +kernel))) (n1) (en1) (show inr ((a1 + 4)) by omega) (show inr ((((a1 + 6) + 8) + tc180_0)) by omega) (show inr (0) by omega) (show 0 ≤ ((a1 + 4)) ∧ ((a1 + 4)) ≤ ((((a1 + 6) + 8) + tc180_0)) ∧ ((((a1 + 6) + 8) + tc180_0)) ≤ (n1) by omega) (fun z49 σ49 F49ₚ A49ₚ Hₚ Oₚ hS49 hA49 pz49_0 => ⟨rfl, ?_⟩))
                      refine v_back (c := c) (s := s) H (show vsub V227 V49_Br [1] = true by decide +kernel) Hₚ Oₚ (fun F49 A49 H Oₚ eF49 eA49 => ?_)
                      have O := OUT_trans O Oₚ
                      -- PackHouse.narrowSum
                      refine Ew_of (pcₚ := 224) (fun _ => x_bipush (z := 8) rfl (by decide)) ?_
                      refine w_iushrA rfl (fun z50 gz50 => ?_)
                      refine Ew_of (pcₚ := 228) (fun _ => x_sipush (z := 255) rfl (by decide)) ?_
                      refine w_iand rfl (show inr (z50) by omega) (show inr (255) by omega) (fun z51 gz51 gaz51 gbz51 => ?_)
                      refine w_icmpeq (t := 240) rfl rfl (show inr (z48) by omega) (show inr (z51) by omega) (fun b52 => ?_) (fun b52 => ?_)
                      · refine Ew_of (pcₚ := 241) (fun _ => x_aload_n rfl (rk_o (lc180_0) rfl rfl)) ?_
                        refine Ew_of (pcₚ := 242) (fun _ => x_iconst rfl) ?_
                        refine Ew_of (pcₚ := 244) (fun _ => x_bipush (z := 8) rfl (by decide)) ?_
                        refine Ew_of (pcₚ := 245) (fun _ => x_iconst rfl) ?_
                        refine Ew_of (pcₚ := 246) (fun _ => x_iload_n rfl (rk_o (lc180_2) rfl rfl)) ?_
                        refine w_imul rfl ?_
                        refine w_iadd rfl ?_
                        have hp16 : p2 (((8 + (2 * z19)))) ≤ p2 22 := p2_mono (by omega)
                        have : p2 22 = 4194304 := by decide
                        have := p2_pos (((8 + (2 * z19))))
                        refine w_ishl1 rfl (show 0 ≤ (8 + (2 * z19)) ∧ (8 + (2 * z19)) ≤ 31 by omega) ?_
                        refine v_p H (o := 0) (z := p2 ((8 + (2 * z19)))) (v := I (p2 ((8 + (2 * z19))))) rfl rfl rfl rfl rfl rfl rfl rfl (show (-2147483648 : Int) ≤ p2 ((8 + (2 * z19))) ∧ p2 ((8 + (2 * z19))) ≤ 2147483647 by omega) (fun σ H Oₚ => ?_)
                        have O := OUT_trans O Oₚ
                        refine Ew_of (pcₚ := 253) (fun _ => x_aload_n rfl (rk_o (lc180_0) rfl rfl)) ?_
                        refine Ew_of (pcₚ := 254) (fun _ => x_aload_n rfl (rk_o (lc180_0) rfl rfl)) ?_
                        refine v_g H (o := 0) (v := .ref (D 2)) rfl rfl rfl rfl rfl (vrf (((((((show F49 0 6 = F_c180 0 6 from (eF49 0 6))).trans (hS_c180 0 6 rfl)).trans ((show F14 0 6 = (updF F9 0 8 (z13)) 0 6 from (eF14 0 6)))).trans ((show F9 0 6 = F 0 6 from (eF9 0 6))))).trans (pf2))) ?_
                        refine v_g H (o := 2) (v := I (u2_1)) rfl rfl rfl rfl rfl (congrArg (fun z : Int => I z) (((((((show F49 2 1 = F_c180 2 1 from (eF49 2 1))).trans (hS_c180 2 1 rfl)).trans ((show F14 2 1 = (updF F9 0 8 (z13)) 2 1 from (eF14 2 1)))).trans ((show F9 2 1 = F 2 1 from (eF9 2 1)))).trans (eu2_1)) : (updF F49 0 9 (p2 ((8 + (2 * z19))))) 2 1 = u2_1)) ?_
                        refine v_p H (o := 0) (z := u2_1) (v := I (u2_1)) rfl rfl rfl rfl rfl rfl rfl rfl (show (-2147483648 : Int) ≤ u2_1 ∧ u2_1 ≤ 2147483647 by omega) (fun σ H Oₚ => ?_)
                        have O := OUT_trans O Oₚ
                        refine Ew_of (pcₚ := 264) (fun _ => x_aload_n rfl (rk_o (lc180_0) rfl rfl)) ?_
                        refine Ew_of (pcₚ := 265) (fun _ => x_iconst rfl) ?_
                        refine Ew_of (pcₚ := 266) (fun _ => x_iload_n rfl rk_s) ?_
                        refine Ew_of (pcₚ := 267) (fun _ => x_iconst rfl) ?_
                        refine w_iadd rfl ?_
                        refine v_inv H (o := 0) rfl rfl rfl rfl rfl rfl (by rfl) (C221 (D := pul [0] D) (N := pul [0] N) (HW_sub H (VS_of (show vsub V227 V221 [0] = true by decide +kernel))) (u0_12) (((((((show F49 0 12 = F_c180 0 12 from (eF49 0 12))).trans (hS_c180 0 12 rfl)).trans ((show F14 0 12 = (updF F9 0 8 (z13)) 0 12 from (eF14 0 12)))).trans ((show F9 0 12 = F 0 12 from (eF9 0 12)))).trans (eu0_12))) (show inr (0) by omega) (show inr (((((a1 + 6) + 8) + tc180_0) + 1)) by omega) (fun z54 σ54 F54ₚ A54ₚ Hₚ Oₚ hS54 hA54 y54_0_12 ey54_0_12 pz54_0 pz54_1 pz54_2 => ⟨rfl, ?_⟩))
                        refine v_back (c := c) (s := s) H (show vsub V227 V221 [0] = true by decide +kernel) Hₚ Oₚ (fun F54 A54 H Oₚ eF54 eA54 => ?_)
                        have O := OUT_trans O Oₚ
                        -- Tokens.fail
                        have r55 : (-2147483648 : Int) ≤ y54_0_12 ∧ y54_0_12 ≤ 2147483647 := by have h1 : (-2147483648 : Int) ≤ F54 0 12 ∧ F54 0 12 ≤ 2147483647 := H.krg 0 12 (by decide); rw [show F54 0 12 = y54_0_12 from ((eF54 0 12).trans ey54_0_12)] at h1; exact h1
                        exact w_ireturn rfl (k (z54) _ _ _ H O (SF_trans (SF_upd (SF_upd (SF_trans (SF_trans (SF_trans (SF_upd (SF_trans (SF_refl) (SF_glu (ι := [1]) hS9 eF9 (by decide +kernel)) (any_sub (lₚ := []) rfl)) rfl) (SF_glu (ι := []) hS14 eF14 (by decide +kernel)) (any_sub (lₚ := []) rfl)) hS_c180 (any_sub rfl)) (SF_glu (ι := [1]) hS49 eF49 (by decide +kernel)) (any_sub (lₚ := []) rfl)) rfl) rfl) (SF_glu (ι := [0]) hS54 eF54 (by decide +kernel)) (any_sub (lₚ := [(0, 12)]) rfl)) (SA_trans (SA_trans (SA_trans (SA_trans (SA_trans (SA_refl) (SA_glu (ι := [1]) hA9 eA9 (by decide +kernel)) (any_subA (lₚ := []) rfl)) (SA_glu (ι := []) hA14 eA14 (by decide +kernel)) (any_subA (lₚ := []) rfl)) hA_c180 (any_subA rfl)) (SA_glu (ι := [1]) hA49 eA49 (by decide +kernel)) (any_subA (lₚ := []) rfl)) (SA_glu (ι := [0]) hA54 eA54 (by decide +kernel)) (any_subA (lₚ := []) rfl)) (z13) ((((((show F54 0 8 = (updF (updF F49 0 9 (p2 ((8 + (2 * z19))))) 0 10 (u2_1)) 0 8 from (eF54 0 8).trans (hS54 0 8 rfl))).trans ((show F49 0 8 = F_c180 0 8 from (eF49 0 8)))).trans (hS_c180 0 8 rfl)).trans ((show F14 0 8 = (updF F9 0 8 (z13)) 0 8 from (eF14 0 8))))) (p2 ((8 + (2 * z19)))) (((show F54 0 9 = (updF (updF F49 0 9 (p2 ((8 + (2 * z19))))) 0 10 (u2_1)) 0 9 from (eF54 0 9).trans (hS54 0 9 rfl)))) (u2_1) (((show F54 0 10 = (updF (updF F49 0 9 (p2 ((8 + (2 * z19))))) 0 10 (u2_1)) 0 10 from (eF54 0 10).trans (hS54 0 10 rfl)))) (y54_0_12) (((eF54 0 12).trans ey54_0_12)) (show inr (z54) by omega) (show 0 ≤ (z54) ∧ (z54) ≤ 6 by omega) (show (z54) = 0 → a1 + 7 ≤ (y54_0_12) ∧ (y54_0_12) ≤ (u0_5) ∧ (u2_1) = (u2_1) ∧ 0 ≤ (p2 ((8 + (2 * z19)))) ∧ (p2 ((8 + (2 * z19)))) ≤ 4194304 by omega) (show (z54) = 0 → andI ((z13)) 8 = 0 ∨ a1 + 14 ≤ (u0_5) by omega))
                      · refine Ew_of (pcₚ := 233) (fun _ => x_aload_n rfl (rk_o (lc180_0) rfl rfl)) ?_
                        refine Ew_of (pcₚ := 235) (fun _ => x_bipush (z := 6) rfl (by decide)) ?_
                        refine Ew_of (pcₚ := 236) (fun _ => x_iload_n rfl rk_s) ?_
                        refine v_inv H (o := 0) rfl rfl rfl rfl rfl rfl (by rfl) (C221 (D := pul [0] D) (N := pul [0] N) (HW_sub H (VS_of (show vsub V227 V221 [0] = true by decide +kernel))) (u0_12) (((((((show F49 0 12 = F_c180 0 12 from (eF49 0 12))).trans (hS_c180 0 12 rfl)).trans ((show F14 0 12 = (updF F9 0 8 (z13)) 0 12 from (eF14 0 12)))).trans ((show F9 0 12 = F 0 12 from (eF9 0 12)))).trans (eu0_12))) (show inr (6) by omega) (show inr ((((a1 + 6) + 8) + tc180_0)) by omega) (fun z56 σ56 F56ₚ A56ₚ Hₚ Oₚ hS56 hA56 y56_0_12 ey56_0_12 pz56_0 pz56_1 pz56_2 => ⟨rfl, ?_⟩))
                        refine v_back (c := c) (s := s) H (show vsub V227 V221 [0] = true by decide +kernel) Hₚ Oₚ (fun F56 A56 H Oₚ eF56 eA56 => ?_)
                        have O := OUT_trans O Oₚ
                        -- Tokens.fail
                        have r57 : (-2147483648 : Int) ≤ y56_0_12 ∧ y56_0_12 ≤ 2147483647 := by have h1 : (-2147483648 : Int) ≤ F56 0 12 ∧ F56 0 12 ≤ 2147483647 := H.krg 0 12 (by decide); rw [show F56 0 12 = y56_0_12 from ((eF56 0 12).trans ey56_0_12)] at h1; exact h1
                        exact w_ireturn rfl (k (z56) _ _ _ H O (SF_trans (SF_trans (SF_trans (SF_trans (SF_upd (SF_trans (SF_refl) (SF_glu (ι := [1]) hS9 eF9 (by decide +kernel)) (any_sub (lₚ := []) rfl)) rfl) (SF_glu (ι := []) hS14 eF14 (by decide +kernel)) (any_sub (lₚ := []) rfl)) hS_c180 (any_sub rfl)) (SF_glu (ι := [1]) hS49 eF49 (by decide +kernel)) (any_sub (lₚ := []) rfl)) (SF_glu (ι := [0]) hS56 eF56 (by decide +kernel)) (any_sub (lₚ := [(0, 12)]) rfl)) (SA_trans (SA_trans (SA_trans (SA_trans (SA_trans (SA_refl) (SA_glu (ι := [1]) hA9 eA9 (by decide +kernel)) (any_subA (lₚ := []) rfl)) (SA_glu (ι := []) hA14 eA14 (by decide +kernel)) (any_subA (lₚ := []) rfl)) hA_c180 (any_subA rfl)) (SA_glu (ι := [1]) hA49 eA49 (by decide +kernel)) (any_subA (lₚ := []) rfl)) (SA_glu (ι := [0]) hA56 eA56 (by decide +kernel)) (any_subA (lₚ := []) rfl)) (z13) ((((((show F56 0 8 = F49 0 8 from (eF56 0 8).trans (hS56 0 8 rfl))).trans ((show F49 0 8 = F_c180 0 8 from (eF49 0 8)))).trans (hS_c180 0 8 rfl)).trans ((show F14 0 8 = (updF F9 0 8 (z13)) 0 8 from (eF14 0 8))))) (u0_9) ((((((((show F56 0 9 = F49 0 9 from (eF56 0 9).trans (hS56 0 9 rfl))).trans ((show F49 0 9 = F_c180 0 9 from (eF49 0 9)))).trans (hS_c180 0 9 rfl)).trans ((show F14 0 9 = (updF F9 0 8 (z13)) 0 9 from (eF14 0 9)))).trans ((show F9 0 9 = F 0 9 from (eF9 0 9)))).trans (eu0_9))) (u0_10) ((((((((show F56 0 10 = F49 0 10 from (eF56 0 10).trans (hS56 0 10 rfl))).trans ((show F49 0 10 = F_c180 0 10 from (eF49 0 10)))).trans (hS_c180 0 10 rfl)).trans ((show F14 0 10 = (updF F9 0 8 (z13)) 0 10 from (eF14 0 10)))).trans ((show F9 0 10 = F 0 10 from (eF9 0 10)))).trans (eu0_10))) (y56_0_12) (((eF56 0 12).trans ey56_0_12)) (show inr (z56) by omega) (show 0 ≤ (z56) ∧ (z56) ≤ 6 by omega) (show (z56) = 0 → a1 + 7 ≤ (y56_0_12) ∧ (y56_0_12) ≤ (u0_5) ∧ (u0_10) = (u2_1) ∧ 0 ≤ (u0_9) ∧ (u0_9) ≤ 4194304 by omega) (show (z56) = 0 → andI ((z13)) 8 = 0 ∨ a1 + 14 ≤ (u0_5) by omega))
                    · refine Ew_of (pcₚ := 191) (fun _ => x_aload_n rfl (rk_o (lc180_0) rfl rfl)) ?_
                      refine Ew_of (pcₚ := 192) (fun _ => x_iconst rfl) ?_
                      refine Ew_of (pcₚ := 193) (fun _ => x_aload_n rfl (rk_o (lc180_0) rfl rfl)) ?_
                      refine v_g H (o := 0) (v := I (u0_5)) rfl rfl rfl rfl rfl (congrArg (fun z : Int => I z) (((((hS_c180 0 5 rfl).trans ((show F14 0 5 = (updF F9 0 8 (z13)) 0 5 from (eF14 0 5)))).trans ((show F9 0 5 = F 0 5 from (eF9 0 5)))).trans (eu0_5)) : F_c180 0 5 = u0_5)) ?_
                      refine v_inv H (o := 0) rfl rfl rfl rfl rfl rfl (by rfl) (C221 (D := pul [0] D) (N := pul [0] N) (HW_sub H (VS_of (show vsub V227 V221 [0] = true by decide +kernel))) (u0_12) (((((hS_c180 0 12 rfl).trans ((show F14 0 12 = (updF F9 0 8 (z13)) 0 12 from (eF14 0 12)))).trans ((show F9 0 12 = F 0 12 from (eF9 0 12)))).trans (eu0_12))) (show inr (1) by omega) (show inr (u0_5) by omega) (fun z58 σ58 F58ₚ A58ₚ Hₚ Oₚ hS58 hA58 y58_0_12 ey58_0_12 pz58_0 pz58_1 pz58_2 => ⟨rfl, ?_⟩))
                      refine v_back (c := c) (s := s) H (show vsub V227 V221 [0] = true by decide +kernel) Hₚ Oₚ (fun F58 A58 H Oₚ eF58 eA58 => ?_)
                      have O := OUT_trans O Oₚ
                      -- Tokens.fail
                      have r59 : (-2147483648 : Int) ≤ y58_0_12 ∧ y58_0_12 ≤ 2147483647 := by have h1 : (-2147483648 : Int) ≤ F58 0 12 ∧ F58 0 12 ≤ 2147483647 := H.krg 0 12 (by decide); rw [show F58 0 12 = y58_0_12 from ((eF58 0 12).trans ey58_0_12)] at h1; exact h1
                      exact w_ireturn rfl (k (z58) _ _ _ H O (SF_trans (SF_trans (SF_trans (SF_upd (SF_trans (SF_refl) (SF_glu (ι := [1]) hS9 eF9 (by decide +kernel)) (any_sub (lₚ := []) rfl)) rfl) (SF_glu (ι := []) hS14 eF14 (by decide +kernel)) (any_sub (lₚ := []) rfl)) hS_c180 (any_sub rfl)) (SF_glu (ι := [0]) hS58 eF58 (by decide +kernel)) (any_sub (lₚ := [(0, 12)]) rfl)) (SA_trans (SA_trans (SA_trans (SA_trans (SA_refl) (SA_glu (ι := [1]) hA9 eA9 (by decide +kernel)) (any_subA (lₚ := []) rfl)) (SA_glu (ι := []) hA14 eA14 (by decide +kernel)) (any_subA (lₚ := []) rfl)) hA_c180 (any_subA rfl)) (SA_glu (ι := [0]) hA58 eA58 (by decide +kernel)) (any_subA (lₚ := []) rfl)) (z13) (((((show F58 0 8 = F_c180 0 8 from (eF58 0 8).trans (hS58 0 8 rfl))).trans (hS_c180 0 8 rfl)).trans ((show F14 0 8 = (updF F9 0 8 (z13)) 0 8 from (eF14 0 8))))) (u0_9) (((((((show F58 0 9 = F_c180 0 9 from (eF58 0 9).trans (hS58 0 9 rfl))).trans (hS_c180 0 9 rfl)).trans ((show F14 0 9 = (updF F9 0 8 (z13)) 0 9 from (eF14 0 9)))).trans ((show F9 0 9 = F 0 9 from (eF9 0 9)))).trans (eu0_9))) (u0_10) (((((((show F58 0 10 = F_c180 0 10 from (eF58 0 10).trans (hS58 0 10 rfl))).trans (hS_c180 0 10 rfl)).trans ((show F14 0 10 = (updF F9 0 8 (z13)) 0 10 from (eF14 0 10)))).trans ((show F9 0 10 = F 0 10 from (eF9 0 10)))).trans (eu0_10))) (y58_0_12) (((eF58 0 12).trans ey58_0_12)) (show inr (z58) by omega) (show 0 ≤ (z58) ∧ (z58) ≤ 6 by omega) (show (z58) = 0 → a1 + 7 ≤ (y58_0_12) ∧ (y58_0_12) ≤ (u0_5) ∧ (u0_10) = (u2_1) ∧ 0 ≤ (u0_9) ∧ (u0_9) ≤ 4194304 by omega) (show (z58) = 0 → andI ((z13)) 8 = 0 ∨ a1 + 14 ≤ (u0_5) by omega))
                  refine w_ifeq (t := 179) rfl rfl (show inr (z45) by omega) (fun b60 => ?_) (fun b60 => ?_)
                  · refine Ew_of (pcₚ := 180) (fun _ => x_iconst rfl) ?_
                    exact hc180 (0) _ _ _ _  (rk_o (rfl) rfl rfl) (rk_o (rfl) rfl rfl) (rk_s) H O (SF_refl) (SA_refl)     (show inr (0) by omega) (show ((z45) = (0) ∧ (0) = (0)) ∨ ((z45) ≠ (0) ∧ (0) = (4)) by omega)
                  · refine Ew_of (pcₚ := 176) (fun _ => x_iconst rfl) ?_
                    refine Ew_of (pcₚ := 180) (fun _ => x_goto rfl rfl) ?_
                    exact hc180 (4) _ _ _ _  (rk_o (rfl) rfl rfl) (rk_o (rfl) rfl rfl) (rk_s) H O (SF_refl) (SA_refl)     (show inr (4) by omega) (show ((z45) = (0) ∧ (4) = (0)) ∨ ((z45) ≠ (0) ∧ (4) = (4)) by omega)
              · exact hc136  _ _ _ _  (rk_o (rfl) rfl rfl) (rk_o (rfl) rfl rfl) H O (SF_refl) (SA_refl)     (show ((z21) ≠ (0)) ∨ ((z21) = (0) ∧ (z19) < (4)) ∨ ((z21) = (0) ∧ (z19) ≥ (4) ∧ (z19) > (7)) by omega)
        · refine Ew_of (pcₚ := 87) (fun _ => x_aload_n rfl rfl) ?_
          refine Ew_of (pcₚ := 88) (fun _ => x_iconst rfl) ?_
          refine Ew_of (pcₚ := 89) (fun _ => x_aload_n rfl rfl) ?_
          refine v_g H (o := 0) (v := I (u0_5)) rfl rfl rfl rfl rfl (congrArg (fun z : Int => I z) (((((show F14 0 5 = (updF F9 0 8 (z13)) 0 5 from (eF14 0 5))).trans ((show F9 0 5 = F 0 5 from (eF9 0 5)))).trans (eu0_5)) : F14 0 5 = u0_5)) ?_
          refine v_inv H (o := 0) rfl rfl rfl rfl rfl rfl (by rfl) (C221 (D := pul [0] D) (N := pul [0] N) (HW_sub H (VS_of (show vsub V227 V221 [0] = true by decide +kernel))) (u0_12) (((((show F14 0 12 = (updF F9 0 8 (z13)) 0 12 from (eF14 0 12))).trans ((show F9 0 12 = F 0 12 from (eF9 0 12)))).trans (eu0_12))) (show inr (1) by omega) (show inr (u0_5) by omega) (fun z61 σ61 F61ₚ A61ₚ Hₚ Oₚ hS61 hA61 y61_0_12 ey61_0_12 pz61_0 pz61_1 pz61_2 => ⟨rfl, ?_⟩))
          refine v_back (c := c) (s := s) H (show vsub V227 V221 [0] = true by decide +kernel) Hₚ Oₚ (fun F61 A61 H Oₚ eF61 eA61 => ?_)
          have O := OUT_trans O Oₚ
          -- Tokens.fail
          have r62 : (-2147483648 : Int) ≤ y61_0_12 ∧ y61_0_12 ≤ 2147483647 := by have h1 : (-2147483648 : Int) ≤ F61 0 12 ∧ F61 0 12 ≤ 2147483647 := H.krg 0 12 (by decide); rw [show F61 0 12 = y61_0_12 from ((eF61 0 12).trans ey61_0_12)] at h1; exact h1
          exact w_ireturn rfl (k (z61) _ _ _ H O (SF_trans (SF_trans (SF_upd (SF_trans (SF_refl) (SF_glu (ι := [1]) hS9 eF9 (by decide +kernel)) (any_sub (lₚ := []) rfl)) rfl) (SF_glu (ι := []) hS14 eF14 (by decide +kernel)) (any_sub (lₚ := []) rfl)) (SF_glu (ι := [0]) hS61 eF61 (by decide +kernel)) (any_sub (lₚ := [(0, 12)]) rfl)) (SA_trans (SA_trans (SA_trans (SA_refl) (SA_glu (ι := [1]) hA9 eA9 (by decide +kernel)) (any_subA (lₚ := []) rfl)) (SA_glu (ι := []) hA14 eA14 (by decide +kernel)) (any_subA (lₚ := []) rfl)) (SA_glu (ι := [0]) hA61 eA61 (by decide +kernel)) (any_subA (lₚ := []) rfl)) (z13) ((((show F61 0 8 = F14 0 8 from (eF61 0 8).trans (hS61 0 8 rfl))).trans ((show F14 0 8 = (updF F9 0 8 (z13)) 0 8 from (eF14 0 8))))) (u0_9) ((((((show F61 0 9 = F14 0 9 from (eF61 0 9).trans (hS61 0 9 rfl))).trans ((show F14 0 9 = (updF F9 0 8 (z13)) 0 9 from (eF14 0 9)))).trans ((show F9 0 9 = F 0 9 from (eF9 0 9)))).trans (eu0_9))) (u0_10) ((((((show F61 0 10 = F14 0 10 from (eF61 0 10).trans (hS61 0 10 rfl))).trans ((show F14 0 10 = (updF F9 0 8 (z13)) 0 10 from (eF14 0 10)))).trans ((show F9 0 10 = F 0 10 from (eF9 0 10)))).trans (eu0_10))) (y61_0_12) (((eF61 0 12).trans ey61_0_12)) (show inr (z61) by omega) (show 0 ≤ (z61) ∧ (z61) ≤ 6 by omega) (show (z61) = 0 → a1 + 7 ≤ (y61_0_12) ∧ (y61_0_12) ≤ (u0_5) ∧ (u0_10) = (u2_1) ∧ 0 ≤ (u0_9) ∧ (u0_9) ≤ 4194304 by omega) (show (z61) = 0 → andI ((z13)) 8 = 0 ∨ a1 + 14 ≤ (u0_5) by omega))
      · refine Ew_of (pcₚ := 67) (fun _ => x_aload_n rfl rfl) ?_
        refine Ew_of (pcₚ := 68) (fun _ => x_iconst rfl) ?_
        refine Ew_of (pcₚ := 69) (fun _ => x_iload_n rfl rfl) ?_
        refine Ew_of (pcₚ := 70) (fun _ => x_iconst rfl) ?_
        refine w_iadd rfl ?_
        refine v_inv H (o := 0) rfl rfl rfl rfl rfl rfl (by rfl) (C221 (D := pul [0] D) (N := pul [0] N) (HW_sub H (VS_of (show vsub V227 V221 [0] = true by decide +kernel))) (u0_12) (((((show F14 0 12 = (updF F9 0 8 (z13)) 0 12 from (eF14 0 12))).trans ((show F9 0 12 = F 0 12 from (eF9 0 12)))).trans (eu0_12))) (show inr (5) by omega) (show inr ((a1 + 4)) by omega) (fun z63 σ63 F63ₚ A63ₚ Hₚ Oₚ hS63 hA63 y63_0_12 ey63_0_12 pz63_0 pz63_1 pz63_2 => ⟨rfl, ?_⟩))
        refine v_back (c := c) (s := s) H (show vsub V227 V221 [0] = true by decide +kernel) Hₚ Oₚ (fun F63 A63 H Oₚ eF63 eA63 => ?_)
        have O := OUT_trans O Oₚ
        -- Tokens.fail
        have r64 : (-2147483648 : Int) ≤ y63_0_12 ∧ y63_0_12 ≤ 2147483647 := by have h1 : (-2147483648 : Int) ≤ F63 0 12 ∧ F63 0 12 ≤ 2147483647 := H.krg 0 12 (by decide); rw [show F63 0 12 = y63_0_12 from ((eF63 0 12).trans ey63_0_12)] at h1; exact h1
        exact w_ireturn rfl (k (z63) _ _ _ H O (SF_trans (SF_trans (SF_upd (SF_trans (SF_refl) (SF_glu (ι := [1]) hS9 eF9 (by decide +kernel)) (any_sub (lₚ := []) rfl)) rfl) (SF_glu (ι := []) hS14 eF14 (by decide +kernel)) (any_sub (lₚ := []) rfl)) (SF_glu (ι := [0]) hS63 eF63 (by decide +kernel)) (any_sub (lₚ := [(0, 12)]) rfl)) (SA_trans (SA_trans (SA_trans (SA_refl) (SA_glu (ι := [1]) hA9 eA9 (by decide +kernel)) (any_subA (lₚ := []) rfl)) (SA_glu (ι := []) hA14 eA14 (by decide +kernel)) (any_subA (lₚ := []) rfl)) (SA_glu (ι := [0]) hA63 eA63 (by decide +kernel)) (any_subA (lₚ := []) rfl)) (z13) ((((show F63 0 8 = F14 0 8 from (eF63 0 8).trans (hS63 0 8 rfl))).trans ((show F14 0 8 = (updF F9 0 8 (z13)) 0 8 from (eF14 0 8))))) (u0_9) ((((((show F63 0 9 = F14 0 9 from (eF63 0 9).trans (hS63 0 9 rfl))).trans ((show F14 0 9 = (updF F9 0 8 (z13)) 0 9 from (eF14 0 9)))).trans ((show F9 0 9 = F 0 9 from (eF9 0 9)))).trans (eu0_9))) (u0_10) ((((((show F63 0 10 = F14 0 10 from (eF63 0 10).trans (hS63 0 10 rfl))).trans ((show F14 0 10 = (updF F9 0 8 (z13)) 0 10 from (eF14 0 10)))).trans ((show F9 0 10 = F 0 10 from (eF9 0 10)))).trans (eu0_10))) (y63_0_12) (((eF63 0 12).trans ey63_0_12)) (show inr (z63) by omega) (show 0 ≤ (z63) ∧ (z63) ≤ 6 by omega) (show (z63) = 0 → a1 + 7 ≤ (y63_0_12) ∧ (y63_0_12) ≤ (u0_5) ∧ (u0_10) = (u2_1) ∧ 0 ≤ (u0_9) ∧ (u0_9) ≤ 4194304 by omega) (show (z63) = 0 → andI ((z13)) 8 = 0 ∨ a1 + 14 ≤ (u0_5) by omega))
    · refine Ew_of (pcₚ := 31) (fun _ => x_aload_n rfl rfl) ?_
      refine Ew_of (pcₚ := 32) (fun _ => x_iconst rfl) ?_
      refine Ew_of (pcₚ := 33) (fun _ => x_aload_n rfl rfl) ?_
      refine v_g H (o := 0) (v := I (u0_5)) rfl rfl rfl rfl rfl (congrArg (fun z : Int => I z) ((((show F9 0 5 = F 0 5 from (eF9 0 5))).trans (eu0_5)) : F9 0 5 = u0_5)) ?_
      refine v_inv H (o := 0) rfl rfl rfl rfl rfl rfl (by rfl) (C221 (D := pul [0] D) (N := pul [0] N) (HW_sub H (VS_of (show vsub V227 V221 [0] = true by decide +kernel))) (u0_12) ((((show F9 0 12 = F 0 12 from (eF9 0 12))).trans (eu0_12))) (show inr (1) by omega) (show inr (u0_5) by omega) (fun z65 σ65 F65ₚ A65ₚ Hₚ Oₚ hS65 hA65 y65_0_12 ey65_0_12 pz65_0 pz65_1 pz65_2 => ⟨rfl, ?_⟩))
      refine v_back (c := c) (s := s) H (show vsub V227 V221 [0] = true by decide +kernel) Hₚ Oₚ (fun F65 A65 H Oₚ eF65 eA65 => ?_)
      have O := OUT_trans O Oₚ
      -- Tokens.fail
      have r66 : (-2147483648 : Int) ≤ y65_0_12 ∧ y65_0_12 ≤ 2147483647 := by have h1 : (-2147483648 : Int) ≤ F65 0 12 ∧ F65 0 12 ≤ 2147483647 := H.krg 0 12 (by decide); rw [show F65 0 12 = y65_0_12 from ((eF65 0 12).trans ey65_0_12)] at h1; exact h1
      exact w_ireturn rfl (k (z65) _ _ _ H O (SF_trans (SF_trans (SF_refl) (SF_glu (ι := [1]) hS9 eF9 (by decide +kernel)) (any_sub (lₚ := []) rfl)) (SF_glu (ι := [0]) hS65 eF65 (by decide +kernel)) (any_sub (lₚ := [(0, 12)]) rfl)) (SA_trans (SA_trans (SA_refl) (SA_glu (ι := [1]) hA9 eA9 (by decide +kernel)) (any_subA (lₚ := []) rfl)) (SA_glu (ι := [0]) hA65 eA65 (by decide +kernel)) (any_subA (lₚ := []) rfl)) (u0_8) (((((show F65 0 8 = F9 0 8 from (eF65 0 8).trans (hS65 0 8 rfl))).trans ((show F9 0 8 = F 0 8 from (eF9 0 8)))).trans (eu0_8))) (u0_9) (((((show F65 0 9 = F9 0 9 from (eF65 0 9).trans (hS65 0 9 rfl))).trans ((show F9 0 9 = F 0 9 from (eF9 0 9)))).trans (eu0_9))) (u0_10) (((((show F65 0 10 = F9 0 10 from (eF65 0 10).trans (hS65 0 10 rfl))).trans ((show F9 0 10 = F 0 10 from (eF9 0 10)))).trans (eu0_10))) (y65_0_12) (((eF65 0 12).trans ey65_0_12)) (show inr (z65) by omega) (show 0 ≤ (z65) ∧ (z65) ≤ 6 by omega) (show (z65) = 0 → a1 + 7 ≤ (y65_0_12) ∧ (y65_0_12) ≤ (u0_5) ∧ (u0_10) = (u2_1) ∧ 0 ≤ (u0_9) ∧ (u0_9) ≤ 4194304 by omega) (show (z65) = 0 → andI ((u0_8)) 8 = 0 ∨ a1 + 14 ≤ (u0_5) by omega))
  · refine Ew_of (pcₚ := 14) (fun _ => x_aload_n rfl rfl) ?_
    refine Ew_of (pcₚ := 15) (fun _ => x_iconst rfl) ?_
    refine Ew_of (pcₚ := 16) (fun _ => x_iload_n rfl rfl) ?_
    refine v_inv H (o := 0) rfl rfl rfl rfl rfl rfl (by rfl) (C221 (D := pul [0] D) (N := pul [0] N) (HW_sub H (VS_of (show vsub V227 V221 [0] = true by decide +kernel))) (u0_12) ((((show F9 0 12 = F 0 12 from (eF9 0 12))).trans (eu0_12))) (show inr (4) by omega) (show inr (a1) by omega) (fun z67 σ67 F67ₚ A67ₚ Hₚ Oₚ hS67 hA67 y67_0_12 ey67_0_12 pz67_0 pz67_1 pz67_2 => ⟨rfl, ?_⟩))
    refine v_back (c := c) (s := s) H (show vsub V227 V221 [0] = true by decide +kernel) Hₚ Oₚ (fun F67 A67 H Oₚ eF67 eA67 => ?_)
    have O := OUT_trans O Oₚ
    -- Tokens.fail
    have r68 : (-2147483648 : Int) ≤ y67_0_12 ∧ y67_0_12 ≤ 2147483647 := by have h1 : (-2147483648 : Int) ≤ F67 0 12 ∧ F67 0 12 ≤ 2147483647 := H.krg 0 12 (by decide); rw [show F67 0 12 = y67_0_12 from ((eF67 0 12).trans ey67_0_12)] at h1; exact h1
    exact w_ireturn rfl (k (z67) _ _ _ H O (SF_trans (SF_trans (SF_refl) (SF_glu (ι := [1]) hS9 eF9 (by decide +kernel)) (any_sub (lₚ := []) rfl)) (SF_glu (ι := [0]) hS67 eF67 (by decide +kernel)) (any_sub (lₚ := [(0, 12)]) rfl)) (SA_trans (SA_trans (SA_refl) (SA_glu (ι := [1]) hA9 eA9 (by decide +kernel)) (any_subA (lₚ := []) rfl)) (SA_glu (ι := [0]) hA67 eA67 (by decide +kernel)) (any_subA (lₚ := []) rfl)) (u0_8) (((((show F67 0 8 = F9 0 8 from (eF67 0 8).trans (hS67 0 8 rfl))).trans ((show F9 0 8 = F 0 8 from (eF9 0 8)))).trans (eu0_8))) (u0_9) (((((show F67 0 9 = F9 0 9 from (eF67 0 9).trans (hS67 0 9 rfl))).trans ((show F9 0 9 = F 0 9 from (eF9 0 9)))).trans (eu0_9))) (u0_10) (((((show F67 0 10 = F9 0 10 from (eF67 0 10).trans (hS67 0 10 rfl))).trans ((show F9 0 10 = F 0 10 from (eF9 0 10)))).trans (eu0_10))) (y67_0_12) (((eF67 0 12).trans ey67_0_12)) (show inr (z67) by omega) (show 0 ≤ (z67) ∧ (z67) ≤ 6 by omega) (show (z67) = 0 → a1 + 7 ≤ (y67_0_12) ∧ (y67_0_12) ≤ (u0_5) ∧ (u0_10) = (u2_1) ∧ 0 ≤ (u0_9) ∧ (u0_9) ≤ 4194304 by omega) (show (z67) = 0 → andI ((u0_8)) 8 = 0 ∨ a1 + 14 ≤ (u0_5) by omega))
abbrev V229 : vV := [(0, 11, [(4, 0), (4, 0), (4, 0), (4, 0), (4, 0), (0, 0), (4, 0), (0, 0), (0, 0), (0, 0), (0, 0), (0, 0), (0, 0)]), (1, 0, []), (0, 7, [(4, 0), (0, 0), (1, 0), (0, 0), (0, 0)]), (1, 0, [])]
/-- Tokens.unpackPlain: this, this.in, this.result, this.result.bytes -/
theorem C229 {σE : rS} {D N : Nat → Nat} {F : hF} {A : hA} {d c s : Nat} {Q : wQ} (H : HW V229 σE D N F A) {a1 a2 a3 : Int} (pf1 : F 0 4 = (D 1 : Int)) (pf2 : F 0 6 = (D 2 : Int)) (pf3 : F 2 0 = (D 3 : Int)) (n1 : Int) (en1 : (N 1 : Int) = n1) (n3 : Int) (en3 : (N 3 : Int) = n3) (u2_1 : Int) (eu2_1 : F 2 1 = u2_1) (h0 : inr (a1)) (h1 : inr (a2)) (h2 : inr (a3)) (h3 : 0 ≤ (a1) ∧ 0 ≤ (a2) ∧ (a1) + (a2) ≤ (n1) ∧ (n1) ≤ 65536) (h4 : 0 ≤ (u2_1) ∧ (u2_1) ≤ (n3) ∧ (n3) ≤ 65536) (h5 : (u2_1) ≤ (a3) ∧ (a3) ≤ 65536) (k : ∀ (z : Int) (σ : rS) (Dₚ Nₚ : Nat → Nat) (Fₚ : hF) (Aₚ : hA) (cₚ sₚ : Nat), HW V229 σ Dₚ Nₚ Fₚ Aₚ → OUT (V229).length D N σE c s Dₚ Nₚ σ cₚ sₚ → SD [3] D Dₚ → SD [3] N Nₚ → SF [(0, 12), (2, 0), (2, 1), (2, 2)] F Fₚ → SA [3] A Aₚ → Fₚ 2 0 = (Dₚ 3 : Int) → ∀ m3 : Int, (Nₚ 3 : Int) = m3 → ∀ y2_1 : Int, Fₚ 2 1 = y2_1 → (inr (z)) → (0 ≤ (z) ∧ (z) ≤ 3) → (0 ≤ (y2_1) ∧ (y2_1) ≤ (m3) ∧ (m3) ≤ 65536) → ((u2_1) ≤ (y2_1) ∧ (y2_1) ≤ (a3)) → Q (some (I z)) σ cₚ sₚ) : Ew 229 (d + 3) 0 (rargs 0 [.ref (D 0), I a1, I a2, I a3]) [] σE c s Q := by
  have O := OUT_refl (n := (V229).length) (D := D) (N := N) (σ := σE) (c := c) (s := s)
  have HE := H
  have r1 : (-2147483648 : Int) ≤ u2_1 ∧ u2_1 ≤ 2147483647 := by have h1 : (-2147483648 : Int) ≤ F 2 1 ∧ F 2 1 ≤ 2147483647 := H.krg 2 1 (by decide); rw [show F 2 1 = u2_1 from (eu2_1)] at h1; exact h1
  have r2 : (0 : Int) ≤ n1 ∧ n1 ≤ 1000000 := by have h1 := H.nle 1 (by decide); have h2 : (N 1 : Int) = n1 := en1; omega
  have r3 : (0 : Int) ≤ n3 ∧ n3 ≤ 1000000 := by have h1 := H.nle 3 (by decide); have h2 : (N 3 : Int) = n3 := en3; omega
  refine Ew_of (pcₚ := 1) (fun _ => x_iload_n rfl rfl) ?_
  refine Ew_of (pcₚ := 2) (fun _ => x_aload_n rfl rfl) ?_
  refine v_g H (o := 0) (v := .ref (D 2)) rfl rfl rfl rfl rfl (vrf (pf2)) ?_
  refine v_g H (o := 2) (v := I (u2_1)) rfl rfl rfl rfl rfl (congrArg (fun z : Int => I z) ((eu2_1) : F 2 1 = u2_1)) ?_
  refine w_isub rfl ?_
  refine Ew_of (pcₚ := 11) (fun _ => x_istore rfl) ?_
  refine Ew_of (pcₚ := 12) (fun _ => x_iload_n rfl (rk_o (rfl) rfl rfl)) ?_
  refine Ew_of (pcₚ := 14) (fun _ => x_iload rfl rk_s) ?_
  refine w_icmple (t := 27) rfl rfl (show inr (a2) by omega) (show inr ((a3 - u2_1)) by omega) (fun b4 => ?_) (fun b4 => ?_)
  · refine Ew_of (pcₚ := 28) (fun _ => x_aload_n rfl (rk_o (rfl) rfl rfl)) ?_
    refine v_g H (o := 0) (v := .ref (D 2)) rfl rfl rfl rfl rfl (vrf (pf2)) ?_
    refine Ew_of (pcₚ := 32) (fun _ => x_aload_n rfl (rk_o (rfl) rfl rfl)) ?_
    refine v_g H (o := 0) (v := .ref (D 1)) rfl rfl rfl rfl rfl (vrf (pf1)) ?_
    refine Ew_of (pcₚ := 36) (fun _ => x_iload_n rfl (rk_o (rfl) rfl rfl)) ?_
    refine Ew_of (pcₚ := 37) (fun _ => x_iload_n rfl (rk_o (rfl) rfl rfl)) ?_
    refine v_inv H (o := 2) rfl rfl rfl rfl rfl rfl (by rfl) (C161_Br (D := pul [2, 1, 3] D) (N := pul [2, 1, 3] N) (HW_sub H (VS_of (show vsub V229 V161_Br [2, 1, 3] = true by decide +kernel))) (pf3) (n1) (en1) (n3) (en3) (u2_1) ((eu2_1)) (A 3) (rfl) (show inr (a1) by omega) (show inr (a2) by omega) (show 0 ≤ (u2_1) ∧ (u2_1) ≤ (n3) ∧ (n3) ≤ 65536 by omega) (show (a2) < 0 ∨ 0 ≤ (a1) ∧ (a1) + (a2) ≤ (n1) by omega) (fun σ5 D5ₚ N5ₚ F5ₚ A5ₚ c5 s5 Hₚ Oₚ hD5 hN5 hS5 hA5 pm5_2 m5_2 em5_2 y5_0_1 ey5_0_1 w5_2 ew5_2 pz5_0 pz5_1 pz5_2 => ⟨rfl, ?_⟩))
    refine v_backM (c := c) (s := s) H (show vsub V229 V161_Br [2, 1, 3] = true by decide +kernel) Hₚ Oₚ hD5 (show vmov V229 [2, 1, 3] [2] = true by decide +kernel) (fun D5 N5 F5 A5 H Oₚ eD5 eN5 eF5 eA5 => ?_)
    have O := OUT_trans O Oₚ
    -- Row.addPart
    have pf5_0_4 : F5 0 4 = (D5 1 : Int) := ((show F5 0 4 = F 0 4 from (eF5 0 4))).trans ((pf1).trans (congrArg (fun q : Nat => (q : Int)) ((show D5 1 = D 1 from (eD5 1).trans (hD5 1 rfl))).symm))
    have pf5_0_6 : F5 0 6 = (D5 2 : Int) := ((show F5 0 6 = F 0 6 from (eF5 0 6))).trans ((pf2).trans (congrArg (fun q : Nat => (q : Int)) ((show D5 2 = D 2 from (eD5 2).trans (hD5 0 rfl))).symm))
    have pf5_2_0 : F5 2 0 = (D5 3 : Int) := (eF5 2 0).trans (pm5_2.trans (congrArg (fun q : Nat => (q : Int)) (eD5 3).symm))
    have r6 : (0 : Int) ≤ m5_2 ∧ m5_2 ≤ 1000000 := by have h1 := H.nle 3 (by decide); have h2 : (N5 3 : Int) = m5_2 := (congrArg (fun q : Nat => (q : Int)) (eN5 3)).trans em5_2; omega
    have r7 : (-2147483648 : Int) ≤ y5_0_1 ∧ y5_0_1 ≤ 2147483647 := by have h1 : (-2147483648 : Int) ≤ F5 2 1 ∧ F5 2 1 ≤ 2147483647 := H.krg 2 1 (by decide); rw [show F5 2 1 = y5_0_1 from ((eF5 2 1).trans ey5_0_1)] at h1; exact h1
    refine Ew_of (pcₚ := 41) (fun _ => x_iconst rfl) ?_
    exact w_ireturn rfl (k (0) _ _ _ _ _ _ _ H O (SD_trans (SD_refl) (SD_glu (ι := [2, 1, 3]) hD5 eD5 (by decide +kernel)) (any_subA (lₚ := [3]) rfl)) (SD_trans (SD_refl) (SD_glu (ι := [2, 1, 3]) hN5 eN5 (by decide +kernel)) (any_subA (lₚ := [3]) rfl)) (SF_trans (SF_refl) (SF_glu (ι := [2, 1, 3]) hS5 eF5 (by decide +kernel)) (any_sub (lₚ := [(2, 0), (2, 1), (2, 2)]) rfl)) (SA_trans (SA_refl) (SA_glu (ι := [2, 1, 3]) hA5 eA5 (by decide +kernel)) (any_subA (lₚ := [3]) rfl)) (pf5_2_0) (m5_2) ((congrArg (fun q : Nat => (q : Int)) (eN5 3)).trans em5_2) (y5_0_1) (((eF5 2 1).trans ey5_0_1)) (show inr (0) by omega) (show 0 ≤ (0) ∧ (0) ≤ 3 by omega) (show 0 ≤ (y5_0_1) ∧ (y5_0_1) ≤ (m5_2) ∧ (m5_2) ≤ 65536 by omega) (show (u2_1) ≤ (y5_0_1) ∧ (y5_0_1) ≤ a3 by omega))
  · refine Ew_of (pcₚ := 18) (fun _ => x_aload_n rfl (rk_o (rfl) rfl rfl)) ?_
    refine Ew_of (pcₚ := 19) (fun _ => x_iconst rfl) ?_
    refine Ew_of (pcₚ := 20) (fun _ => x_iload_n rfl (rk_o (rfl) rfl rfl)) ?_
    refine Ew_of (pcₚ := 22) (fun _ => x_iload rfl rk_s) ?_
    refine w_iadd rfl ?_
    have r8 : (-2147483648 : Int) ≤ F 0 12 ∧ F 0 12 ≤ 2147483647 := by have h1 : (-2147483648 : Int) ≤ F 0 12 ∧ F 0 12 ≤ 2147483647 := H.krg 0 12 (by decide); rw [show F 0 12 = F 0 12 from rfl] at h1; exact h1
    refine v_inv H (o := 0) rfl rfl rfl rfl rfl rfl (by rfl) (C221 (D := pul [0] D) (N := pul [0] N) (HW_sub H (VS_of (show vsub V229 V221 [0] = true by decide +kernel))) (F 0 12) (rfl) (show inr (3) by omega) (show inr ((a1 + (a3 - u2_1))) by omega) (fun z9 σ9 F9ₚ A9ₚ Hₚ Oₚ hS9 hA9 y9_0_12 ey9_0_12 pz9_0 pz9_1 pz9_2 => ⟨rfl, ?_⟩))
    refine v_back (c := c) (s := s) H (show vsub V229 V221 [0] = true by decide +kernel) Hₚ Oₚ (fun F9 A9 H Oₚ eF9 eA9 => ?_)
    have O := OUT_trans O Oₚ
    -- Tokens.fail
    have r10 : (-2147483648 : Int) ≤ y9_0_12 ∧ y9_0_12 ≤ 2147483647 := by have h1 : (-2147483648 : Int) ≤ F9 0 12 ∧ F9 0 12 ≤ 2147483647 := H.krg 0 12 (by decide); rw [show F9 0 12 = y9_0_12 from ((eF9 0 12).trans ey9_0_12)] at h1; exact h1
    exact w_ireturn rfl (k (z9) _ _ _ _ _ _ _ H O (SD_refl) (SD_refl) (SF_trans (SF_refl) (SF_glu (ι := [0]) hS9 eF9 (by decide +kernel)) (any_sub (lₚ := [(0, 12)]) rfl)) (SA_trans (SA_refl) (SA_glu (ι := [0]) hA9 eA9 (by decide +kernel)) (any_subA (lₚ := []) rfl)) ((((show F9 2 0 = F 2 0 from (eF9 2 0)))).trans (pf3)) (n3) (en3) (u2_1) ((((show F9 2 1 = F 2 1 from (eF9 2 1))).trans (eu2_1))) (show inr (z9) by omega) (show 0 ≤ (z9) ∧ (z9) ≤ 3 by omega) (show 0 ≤ (u2_1) ∧ (u2_1) ≤ (n3) ∧ (n3) ≤ 65536 by omega) (show (u2_1) ≤ (u2_1) ∧ (u2_1) ≤ a3 by omega))
abbrev V228 : vV := [(0, 11, [(4, 0), (4, 0), (4, 0), (4, 0), (4, 0), (0, 0), (4, 0), (0, 0), (0, 0), (0, 0), (0, 0), (0, 0), (0, 0)]), (1, 0, []), (0, 7, [(4, 0), (0, 0), (1, 0), (0, 0), (0, 0)]), (1, 0, []), (0, 7, [(4, 0), (0, 0), (1, 0), (0, 0), (0, 0)]), (1, 0, [])]
/-- Tokens.unpackBlocks: this, this.in, this.result, this.result.bytes, this.past, this.past.bytes -/
theorem C228 {σE : rS} {D N : Nat → Nat} {F : hF} {A : hA} {d c s : Nat} {Q : wQ} (H : HW V228 σE D N F A) {a1 : Int} (pf1 : F 0 4 = (D 1 : Int)) (pf2 : F 0 6 = (D 2 : Int)) (pf3 : F 2 0 = (D 3 : Int)) (pf4 : F 0 1 = (D 4 : Int)) (pf5 : F 4 0 = (D 5 : Int)) (n1 : Int) (en1 : (N 1 : Int) = n1) (n3 : Int) (en3 : (N 3 : Int) = n3) (n5 : Int) (en5 : (N 5 : Int) = n5) (u0_5 : Int) (eu0_5 : F 0 5 = u0_5) (u0_7 : Int) (eu0_7 : F 0 7 = u0_7) (u0_9 : Int) (eu0_9 : F 0 9 = u0_9) (u0_10 : Int) (eu0_10 : F 0 10 = u0_10) (u0_12 : Int) (eu0_12 : F 0 12 = u0_12) (u2_1 : Int) (eu2_1 : F 2 1 = u2_1) (u4_1 : Int) (eu4_1 : F 4 1 = u4_1) (h0 : inr (a1)) (h1 : 0 ≤ (u0_5) ∧ (u0_5) ≤ (n1) ∧ (n1) ≤ 65536) (h2 : 0 ≤ (a1) ∧ (a1) ≤ (u0_5)) (h3 : 0 ≤ (u2_1) ∧ (u2_1) ≤ (n3) ∧ (n3) ≤ 65536) (h4 : 0 ≤ (u4_1) ∧ (u4_1) ≤ (n5) ∧ (n5) ≤ 65536) (h5 : 0 ≤ (u0_7) ∧ (u0_7) ≤ 65536 ∧ (u2_1) ≤ (u0_7)) (h6 : 0 ≤ (u0_10) ∧ (u0_10) ≤ (u2_1)) (h7 : 0 ≤ (u0_9) ∧ (u0_9) ≤ 4194304) (k : ∀ (z : Int) (σ : rS) (Dₚ Nₚ : Nat → Nat) (Fₚ : hF) (Aₚ : hA) (cₚ sₚ : Nat), HW V228 σ Dₚ Nₚ Fₚ Aₚ → OUT (V228).length D N σE c s Dₚ Nₚ σ cₚ sₚ → SD [3] D Dₚ → SD [3] N Nₚ → SF [(0, 11), (0, 12), (2, 0), (2, 1), (2, 2)] F Fₚ → SA [3] A Aₚ → Fₚ 2 0 = (Dₚ 3 : Int) → ∀ m3 : Int, (Nₚ 3 : Int) = m3 → ∀ y0_12 : Int, Fₚ 0 12 = y0_12 → ∀ y2_1 : Int, Fₚ 2 1 = y2_1 → (inr (z)) → (0 ≤ (z) ∧ (z) ≤ 9) → (0 ≤ (y2_1) ∧ (y2_1) ≤ (m3) ∧ (m3) ≤ 65536) → ((u2_1) ≤ (y2_1) ∧ (y2_1) ≤ (u0_7)) → ((z) = 0 → (a1) + 4 ≤ (y0_12) ∧ (y0_12) ≤ (u0_5)) → Q (some (I z)) σ cₚ sₚ) : Ew 228 (d + 4) 0 (rargs 0 [.ref (D 0), I a1]) [] σE c s Q := by
  have O := OUT_refl (n := (V228).length) (D := D) (N := N) (σ := σE) (c := c) (s := s)
  have HE := H
  have r1 : (-2147483648 : Int) ≤ u0_5 ∧ u0_5 ≤ 2147483647 := by have h1 : (-2147483648 : Int) ≤ F 0 5 ∧ F 0 5 ≤ 2147483647 := H.krg 0 5 (by decide); rw [show F 0 5 = u0_5 from (eu0_5)] at h1; exact h1
  have r2 : (-2147483648 : Int) ≤ u0_7 ∧ u0_7 ≤ 2147483647 := by have h1 : (-2147483648 : Int) ≤ F 0 7 ∧ F 0 7 ≤ 2147483647 := H.krg 0 7 (by decide); rw [show F 0 7 = u0_7 from (eu0_7)] at h1; exact h1
  have r3 : (-2147483648 : Int) ≤ u0_9 ∧ u0_9 ≤ 2147483647 := by have h1 : (-2147483648 : Int) ≤ F 0 9 ∧ F 0 9 ≤ 2147483647 := H.krg 0 9 (by decide); rw [show F 0 9 = u0_9 from (eu0_9)] at h1; exact h1
  have r4 : (-2147483648 : Int) ≤ u0_10 ∧ u0_10 ≤ 2147483647 := by have h1 : (-2147483648 : Int) ≤ F 0 10 ∧ F 0 10 ≤ 2147483647 := H.krg 0 10 (by decide); rw [show F 0 10 = u0_10 from (eu0_10)] at h1; exact h1
  have r5 : (-2147483648 : Int) ≤ u0_12 ∧ u0_12 ≤ 2147483647 := by have h1 : (-2147483648 : Int) ≤ F 0 12 ∧ F 0 12 ≤ 2147483647 := H.krg 0 12 (by decide); rw [show F 0 12 = u0_12 from (eu0_12)] at h1; exact h1
  have r6 : (-2147483648 : Int) ≤ u2_1 ∧ u2_1 ≤ 2147483647 := by have h1 : (-2147483648 : Int) ≤ F 2 1 ∧ F 2 1 ≤ 2147483647 := H.krg 2 1 (by decide); rw [show F 2 1 = u2_1 from (eu2_1)] at h1; exact h1
  have r7 : (-2147483648 : Int) ≤ u4_1 ∧ u4_1 ≤ 2147483647 := by have h1 : (-2147483648 : Int) ≤ F 4 1 ∧ F 4 1 ≤ 2147483647 := H.krg 4 1 (by decide); rw [show F 4 1 = u4_1 from (eu4_1)] at h1; exact h1
  have r8 : (0 : Int) ≤ n1 ∧ n1 ≤ 1000000 := by have h1 := H.nle 1 (by decide); have h2 : (N 1 : Int) = n1 := en1; omega
  have r9 : (0 : Int) ≤ n3 ∧ n3 ≤ 1000000 := by have h1 := H.nle 3 (by decide); have h2 : (N 3 : Int) = n3 := en3; omega
  have r10 : (0 : Int) ≤ n5 ∧ n5 ≤ 1000000 := by have h1 := H.nle 5 (by decide); have h2 : (N 5 : Int) = n5 := en5; omega
  refine Ew_of (pcₚ := 1) (fun _ => x_iload_n rfl rfl) ?_
  refine Ew_of (pcₚ := 2) (fun _ => x_istore_n rfl) ?_
  refine Ew_of (pcₚ := 3) (fun _ => x_iload_n rfl (rk_o (rfl) rfl rfl)) ?_
  refine Ew_of (pcₚ := 4) (fun _ => x_istore_n rfl) ?_
  suffices hl4 : ∀ (m : Nat), ∀ (ls : rO) (σ : rS) (D_4 N_4 : Nat → Nat) (c_4 s_4 : Nat) (F_4 : hF) (A_4 : hA) (x4_2 : Int) (x4_3 : Int), rlook ls 0 = some (.ref (D_4 0)) → rlook ls 2 = some (I (x4_2)) → rlook ls 3 = some (I (x4_3)) → HW V228 σ D_4 N_4 F_4 A_4 → OUT (V228).length D N σE c s D_4 N_4 σ c_4 s_4 → SD [3] D D_4 → SD [3] N N_4 → SF [(0, 11), (0, 12), (2, 0), (2, 1), (2, 2)] F F_4 → SA [3] A A_4 → F_4 2 0 = (D_4 3 : Int) → ∀ m4_3 : Int, (N_4 3 : Int) = m4_3 → ∀ y4_2_1 : Int, F_4 2 1 = y4_2_1 → (inr (x4_2)) → (inr (x4_3)) → ((a1) ≤ (x4_3)) → ((x4_3) ≤ (a1) ∨ (x4_3) ≤ (((u0_5) + 1))) → ((a1) ≤ (x4_2) ∧ (x4_2) ≤ (u0_5)) → (0 ≤ (y4_2_1) ∧ (y4_2_1) ≤ (m4_3) ∧ (m4_3) ≤ 65536) → ((u2_1) ≤ (y4_2_1) ∧ (y4_2_1) ≤ (u0_7)) → ((((u0_5) + 1)) - (x4_3)).toNat = m → Ew 228 (d + 4) 4 ls [] σ c_4 s_4 Q from
    hl4 _ _ _ _ _ _ _ _ _ (a1) (a1) (rk_o (rk_o (rfl) rfl rfl) rfl rfl) (rk_o (rk_s) rfl rfl) (rk_s) H O (SD_refl) (SD_refl) (SF_refl) (SA_refl) (pf3) (n3) (en3) (u2_1) ((eu2_1))  (show inr (a1) by omega) (show inr (a1) by omega) (show (a1) ≤ (a1) by omega) (show (a1) ≤ (a1) ∨ (a1) ≤ (((u0_5) + 1)) by omega) (show (a1) ≤ (a1) ∧ (a1) ≤ (u0_5) by omega) (show 0 ≤ (u2_1) ∧ (u2_1) ≤ (n3) ∧ (n3) ≤ 65536 by omega) (show (u2_1) ≤ (u2_1) ∧ (u2_1) ≤ (u0_7) by omega) rfl
  as_aux_lemma =>
  intro m
  induction m using Nat.strongRecOn with
  | _ m ih4 =>
    intro ls σ D_4 N_4 c_4 s_4 F_4 A_4 x4_2 x4_3 l4_0 l4_2 l4_3 H O hD_4 hN_4 hS_4 hA_4 pm4_3 m4_3 em4_3 y4_2_1 ey4_2_1  j4_0 j4_1 j4_2 j4_3 j4_4 j4_5 j4_6 hm4
    have pf_4_0_1 : F_4 0 1 = (D_4 4 : Int) := (hS_4 0 1 rfl).trans ((pf4).trans (congrArg (fun q : Nat => (q : Int)) (hD_4 4 rfl).symm))
    have pf_4_0_4 : F_4 0 4 = (D_4 1 : Int) := (hS_4 0 4 rfl).trans ((pf1).trans (congrArg (fun q : Nat => (q : Int)) (hD_4 1 rfl).symm))
    have pf_4_0_6 : F_4 0 6 = (D_4 2 : Int) := (hS_4 0 6 rfl).trans ((pf2).trans (congrArg (fun q : Nat => (q : Int)) (hD_4 2 rfl).symm))
    have pf_4_4_0 : F_4 4 0 = (D_4 5 : Int) := (hS_4 4 0 rfl).trans ((pf5).trans (congrArg (fun q : Nat => (q : Int)) (hD_4 5 rfl).symm))
    have r11 : (0 : Int) ≤ m4_3 ∧ m4_3 ≤ 1000000 := by have h1 := H.nle 3 (by decide); have h2 : (N_4 3 : Int) = m4_3 := em4_3; omega
    have r12 : (-2147483648 : Int) ≤ y4_2_1 ∧ y4_2_1 ≤ 2147483647 := by have h1 : (-2147483648 : Int) ≤ F_4 2 1 ∧ F_4 2 1 ≤ 2147483647 := H.krg 2 1 (by decide); rw [show F_4 2 1 = y4_2_1 from (ey4_2_1)] at h1; exact h1
    refine Ew_of (pcₚ := 5) (fun _ => x_iload_n rfl l4_3) ?_
    refine Ew_of (pcₚ := 6) (fun _ => x_aload_n rfl l4_0) ?_
    refine v_g H (o := 0) (v := I (u0_5)) rfl rfl rfl rfl rfl (congrArg (fun z : Int => I z) (((hS_4 0 5 rfl).trans (eu0_5)) : F_4 0 5 = u0_5)) ?_
    refine w_icmpgt (t := 290) rfl rfl (show inr (x4_3) by omega) (show inr (u0_5) by omega) (fun b13 => ?_) (fun b13 => ?_)
    · refine Ew_of (pcₚ := 291) (fun _ => x_aload_n rfl l4_0) ?_
      refine Ew_of (pcₚ := 292) (fun _ => x_iconst rfl) ?_
      refine Ew_of (pcₚ := 293) (fun _ => x_aload_n rfl l4_0) ?_
      refine v_g H (o := 0) (v := I (u0_5)) rfl rfl rfl rfl rfl (congrArg (fun z : Int => I z) (((hS_4 0 5 rfl).trans (eu0_5)) : F_4 0 5 = u0_5)) ?_
      have r14 : (-2147483648 : Int) ≤ F_4 0 12 ∧ F_4 0 12 ≤ 2147483647 := by have h1 : (-2147483648 : Int) ≤ F_4 0 12 ∧ F_4 0 12 ≤ 2147483647 := H.krg 0 12 (by decide); rw [show F_4 0 12 = F_4 0 12 from rfl] at h1; exact h1
      refine v_inv H (o := 0) rfl rfl rfl rfl rfl rfl (by rfl) (C221 (D := pul [0] D_4) (N := pul [0] N_4) (HW_sub H (VS_of (show vsub V228 V221 [0] = true by decide +kernel))) (F_4 0 12) (rfl) (show inr (1) by omega) (show inr (u0_5) by omega) (fun z15 σ15 F15ₚ A15ₚ Hₚ Oₚ hS15 hA15 y15_0_12 ey15_0_12 pz15_0 pz15_1 pz15_2 => ⟨rfl, ?_⟩))
      refine v_back (c := c_4) (s := s_4) H (show vsub V228 V221 [0] = true by decide +kernel) Hₚ Oₚ (fun F15 A15 H Oₚ eF15 eA15 => ?_)
      have O := OUT_trans O Oₚ
      -- Tokens.fail
      have r16 : (-2147483648 : Int) ≤ y15_0_12 ∧ y15_0_12 ≤ 2147483647 := by have h1 : (-2147483648 : Int) ≤ F15 0 12 ∧ F15 0 12 ≤ 2147483647 := H.krg 0 12 (by decide); rw [show F15 0 12 = y15_0_12 from ((eF15 0 12).trans ey15_0_12)] at h1; exact h1
      exact w_ireturn rfl (k (z15) _ _ _ _ _ _ _ H O (SD_trans (SD_refl) hD_4 (any_subA rfl)) (SD_trans (SD_refl) hN_4 (any_subA rfl)) (SF_trans (SF_trans (SF_refl) hS_4 (any_sub rfl)) (SF_glu (ι := [0]) hS15 eF15 (by decide +kernel)) (any_sub (lₚ := [(0, 12)]) rfl)) (SA_trans (SA_trans (SA_refl) hA_4 (any_subA rfl)) (SA_glu (ι := [0]) hA15 eA15 (by decide +kernel)) (any_subA (lₚ := []) rfl)) ((((show F15 2 0 = F_4 2 0 from (eF15 2 0)))).trans (pm4_3)) (m4_3) (em4_3) (y15_0_12) (((eF15 0 12).trans ey15_0_12)) (y4_2_1) ((((show F15 2 1 = F_4 2 1 from (eF15 2 1))).trans (ey4_2_1))) (show inr (z15) by omega) (show 0 ≤ (z15) ∧ (z15) ≤ 9 by omega) (show 0 ≤ (y4_2_1) ∧ (y4_2_1) ≤ (m4_3) ∧ (m4_3) ≤ 65536 by omega) (show (u2_1) ≤ (y4_2_1) ∧ (y4_2_1) ≤ (u0_7) by omega) (show (z15) = 0 → a1 + 4 ≤ (y15_0_12) ∧ (y15_0_12) ≤ (u0_5) by omega))
    · refine Ew_of (pcₚ := 13) (fun _ => x_aload_n rfl l4_0) ?_
      refine v_g H (o := 0) (v := I (u0_5)) rfl rfl rfl rfl rfl (congrArg (fun z : Int => I z) (((hS_4 0 5 rfl).trans (eu0_5)) : F_4 0 5 = u0_5)) ?_
      refine Ew_of (pcₚ := 17) (fun _ => x_iload_n rfl l4_2) ?_
      refine w_isub rfl ?_
      refine Ew_of (pcₚ := 19) (fun _ => x_iconst rfl) ?_
      refine w_icmpge (t := 32) rfl rfl (show inr ((u0_5 - x4_2)) by omega) (show inr (4) by omega) (fun b17 => ?_) (fun b17 => ?_)
      · refine Ew_of (pcₚ := 33) (fun _ => x_aload_n rfl l4_0) ?_
        refine v_g H (o := 0) (v := .ref (D_4 1)) rfl rfl rfl rfl rfl (vrf (pf_4_0_4)) ?_
        refine Ew_of (pcₚ := 37) (fun _ => x_iload_n rfl l4_2) ?_
        refine w_stat25 rfl rfl (by rfl) (C41_Br (D := pul [1] D_4) (N := pul [1] N_4) (HW_sub H (VS_of (show vsub V228 V41_Br [1] = true by decide +kernel))) (n1) ((congrArg (fun q : Nat => (q : Int)) (hN_4 1 rfl)).trans (en1)) (show inr (x4_2) by omega) (show 0 ≤ (x4_2) ∧ (x4_2) + 4 ≤ (n1) by omega) (fun z18 σ18 F18ₚ A18ₚ Hₚ Oₚ hS18 hA18 pz18_0 => ⟨rfl, ?_⟩))
        refine v_back (c := c_4) (s := s_4) H (show vsub V228 V41_Br [1] = true by decide +kernel) Hₚ Oₚ (fun F18 A18 H Oₚ eF18 eA18 => ?_)
        have O := OUT_trans O Oₚ
        -- PackHouse.word
        refine Ew_of (pcₚ := 42) (fun _ => x_istore rfl) ?_
        refine Ew_of (pcₚ := 44) (fun _ => x_iload rfl rk_s) ?_
        refine Ew_of (pcₚ := 46) (fun _ => x_ldc (z := 2147483647) rfl (by decide)) ?_
        refine w_iand rfl (show inr (z18) by omega) (show inr (2147483647) by omega) (fun z19 gz19 gaz19 gbz19 => ?_)
        refine Ew_of (pcₚ := 49) (fun _ => x_istore rfl) ?_
        refine Ew_of (pcₚ := 51) (fun _ => x_iload rfl (rk_o (rk_s) rfl rfl)) ?_
        refine w_ifne (t := 63) rfl rfl (show inr (z18) by omega) (fun b20 => ?_) (fun b20 => ?_)
        · refine Ew_of (pcₚ := 65) (fun _ => x_iload rfl rk_s) ?_
          refine Ew_of (pcₚ := 66) (fun _ => x_aload_n rfl (rk_o (rk_o (l4_0) rfl rfl) rfl rfl)) ?_
          refine v_g H (o := 0) (v := I (u0_9)) rfl rfl rfl rfl rfl (congrArg (fun z : Int => I z) (((((show F18 0 9 = F_4 0 9 from (eF18 0 9))).trans (hS_4 0 9 rfl)).trans (eu0_9)) : F18 0 9 = u0_9)) ?_
          refine w_icmple (t := 80) rfl rfl (show inr (z19) by omega) (show inr (u0_9) by omega) (fun b21 => ?_) (fun b21 => ?_)
          · refine Ew_of (pcₚ := 81) (fun _ => x_iload_n rfl (rk_o (rk_o (l4_2) rfl rfl) rfl rfl)) ?_
            refine Ew_of (pcₚ := 82) (fun _ => x_iconst rfl) ?_
            refine w_iadd rfl ?_
            refine Ew_of (pcₚ := 85) (fun _ => x_istore rfl) ?_
            refine Ew_of (pcₚ := 86) (fun _ => x_aload_n rfl (rk_o (rk_o (rk_o (l4_0) rfl rfl) rfl rfl) rfl rfl)) ?_
            have r22 : (-2147483648 : Int) ≤ F 0 8 ∧ F 0 8 ≤ 2147483647 := by have h1 : (-2147483648 : Int) ≤ F18 0 8 ∧ F18 0 8 ≤ 2147483647 := H.krg 0 8 (by decide); rw [show F18 0 8 = F 0 8 from (((show F18 0 8 = F_4 0 8 from (eF18 0 8))).trans (hS_4 0 8 rfl))] at h1; exact h1
            refine v_g H (o := 0) (v := I (F 0 8)) rfl rfl rfl rfl rfl (congrArg (fun z : Int => I z) ((((show F18 0 8 = F_4 0 8 from (eF18 0 8))).trans (hS_4 0 8 rfl)) : F18 0 8 = F 0 8)) ?_
            refine Ew_of (pcₚ := 91) (fun _ => x_bipush (z := 16) rfl (by decide)) ?_
            refine w_iand rfl (show inr (F 0 8) by omega) (show inr (16) by omega) (fun z23 gz23 gaz23 gbz23 => ?_)
            have hc100 : ∀ (tc100_0 : Int), ∀ (ls : rO) (σ : rS) (F_c100 : hF) (A_c100 : hA) , rlook ls 0 = some (.ref (D_4 0)) → rlook ls 3 = some (I (x4_3)) → rlook ls 4 = some (I (z18)) → rlook ls 5 = some (I (z19)) → rlook ls 6 = some (I ((x4_2 + 4))) → HW V228 σ D_4 N_4 F_c100 A_c100 → OUT (V228).length D N σE c s D_4 N_4 σ c_4 s_4 → SF [] F18 F_c100 → SA [] A18 A_c100 → (inr (tc100_0)) → (((z23) = (0) ∧ (tc100_0) = (0)) ∨ ((z23) ≠ (0) ∧ (tc100_0) = (4))) → Ew 228 (d + 4) 100 ls [I (tc100_0)] σ c_4 s_4 Q := by
             as_aux_lemma =>
              intro tc100_0 ls σ F_c100 A_c100  lc100_0 lc100_3 lc100_4 lc100_5 lc100_6 H O hS_c100 hA_c100     jc100_0 jc100_1
              refine Ew_of (pcₚ := 102) (fun _ => x_istore rfl) ?_
              refine Ew_of (pcₚ := 103) (fun _ => x_aload_n rfl (rk_o (lc100_0) rfl rfl)) ?_
              refine v_g H (o := 0) (v := I (u0_5)) rfl rfl rfl rfl rfl (congrArg (fun z : Int => I z) (((((hS_c100 0 5 rfl).trans ((show F18 0 5 = F_4 0 5 from (eF18 0 5)))).trans (hS_4 0 5 rfl)).trans (eu0_5)) : F_c100 0 5 = u0_5)) ?_
              refine Ew_of (pcₚ := 108) (fun _ => x_iload rfl (rk_o (lc100_6) rfl rfl)) ?_
              refine w_isub rfl ?_
              refine Ew_of (pcₚ := 111) (fun _ => x_iload rfl (rk_o (lc100_5) rfl rfl)) ?_
              refine Ew_of (pcₚ := 113) (fun _ => x_iload rfl rk_s) ?_
              refine w_iadd rfl ?_
              refine w_icmpge (t := 127) rfl rfl (show inr ((u0_5 - (x4_2 + 4))) by omega) (show inr ((z19 + tc100_0)) by omega) (fun b24 => ?_) (fun b24 => ?_)
              · have hc174 : ∀ (ls : rO) (σ : rS) (F_c174 : hF) (A_c174 : hA) , rlook ls 0 = some (.ref (D_4 0)) → rlook ls 3 = some (I (x4_3)) → rlook ls 4 = some (I (z18)) → rlook ls 5 = some (I (z19)) → rlook ls 6 = some (I ((x4_2 + 4))) → rlook ls 7 = some (I (tc100_0)) → HW V228 σ D_4 N_4 F_c174 A_c174 → OUT (V228).length D N σE c s D_4 N_4 σ c_4 s_4 → SF [] F_c100 F_c174 → SA [] A_c100 A_c174 → Ew 228 (d + 4) 174 ls [] σ c_4 s_4 Q := by
                 as_aux_lemma =>
                  intro  ls σ F_c174 A_c174  lc174_0 lc174_3 lc174_4 lc174_5 lc174_6 lc174_7 H O hS_c174 hA_c174     
                  refine Ew_of (pcₚ := 175) (fun _ => x_aload_n rfl lc174_0) ?_
                  refine v_g H (o := 0) (v := I (u0_7)) rfl rfl rfl rfl rfl (congrArg (fun z : Int => I z) ((((((hS_c174 0 7 rfl).trans (hS_c100 0 7 rfl)).trans ((show F18 0 7 = F_4 0 7 from (eF18 0 7)))).trans (hS_4 0 7 rfl)).trans (eu0_7)) : F_c174 0 7 = u0_7)) ?_
                  refine Ew_of (pcₚ := 179) (fun _ => x_aload_n rfl lc174_0) ?_
                  refine v_g H (o := 0) (v := .ref (D_4 2)) rfl rfl rfl rfl rfl (vrf (((((hS_c174 0 6 rfl).trans (hS_c100 0 6 rfl)).trans ((show F18 0 6 = F_4 0 6 from (eF18 0 6))))).trans (pf_4_0_6))) ?_
                  refine v_g H (o := 2) (v := I (y4_2_1)) rfl rfl rfl rfl rfl (congrArg (fun z : Int => I z) (((((hS_c174 2 1 rfl).trans (hS_c100 2 1 rfl)).trans ((show F18 2 1 = F_4 2 1 from (eF18 2 1)))).trans (ey4_2_1)) : F_c174 2 1 = y4_2_1)) ?_
                  refine Ew_of (pcₚ := 186) (fun _ => x_aload_n rfl lc174_0) ?_
                  refine v_g H (o := 0) (v := I (u0_9)) rfl rfl rfl rfl rfl (congrArg (fun z : Int => I z) ((((((hS_c174 0 9 rfl).trans (hS_c100 0 9 rfl)).trans ((show F18 0 9 = F_4 0 9 from (eF18 0 9)))).trans (hS_4 0 9 rfl)).trans (eu0_9)) : F_c174 0 9 = u0_9)) ?_
                  refine w_iadd rfl ?_
                  refine v_min rfl rfl (show inr (u0_7) by omega) (show inr ((y4_2_1 + u0_9)) by omega) (fun z25 gz25 => ?_)
                  refine Ew_of (pcₚ := 195) (fun _ => x_istore rfl) ?_
                  refine Ew_of (pcₚ := 196) (fun _ => x_aload_n rfl (rk_o (lc174_0) rfl rfl)) ?_
                  refine v_g H (o := 0) (v := I (F 0 8)) rfl rfl rfl rfl rfl (congrArg (fun z : Int => I z) (((((hS_c174 0 8 rfl).trans (hS_c100 0 8 rfl)).trans ((show F18 0 8 = F_4 0 8 from (eF18 0 8)))).trans (hS_4 0 8 rfl)) : F_c174 0 8 = F 0 8)) ?_
                  refine Ew_of (pcₚ := 201) (fun _ => x_bipush (z := 32) rfl (by decide)) ?_
                  refine w_iand rfl (show inr (F 0 8) by omega) (show inr (32) by omega) (fun z26 gz26 gaz26 gbz26 => ?_)
                  have hc219 : ∀ (tc219_0 : Int), ∀ (ls : rO) (σ : rS) (F_c219 : hF) (A_c219 : hA) , rlook ls 0 = some (.ref (D_4 0)) → rlook ls 3 = some (I (x4_3)) → rlook ls 4 = some (I (z18)) → rlook ls 5 = some (I (z19)) → rlook ls 6 = some (I ((x4_2 + 4))) → rlook ls 7 = some (I (tc100_0)) → rlook ls 8 = some (I (z25)) → HW V228 σ D_4 N_4 F_c219 A_c219 → OUT (V228).length D N σE c s D_4 N_4 σ c_4 s_4 → SF [] F_c174 F_c219 → SA [] A_c174 A_c219 → (inr (tc219_0)) → (((z26) = (0) ∧ (tc219_0) = (u0_10)) ∨ ((z26) ≠ (0) ∧ (tc219_0) = (y4_2_1))) → Ew 228 (d + 4) 219 ls [I (tc219_0)] σ c_4 s_4 Q := by
                   as_aux_lemma =>
                    intro tc219_0 ls σ F_c219 A_c219  lc219_0 lc219_3 lc219_4 lc219_5 lc219_6 lc219_7 lc219_8 H O hS_c219 hA_c219     jc219_0 jc219_1
                    refine Ew_of (pcₚ := 221) (fun _ => x_istore rfl) ?_
                    have hc254 : ∀ (tc254_0 : Int), ∀ (ls : rO) (σ : rS) (D_c254 N_c254 : Nat → Nat) (c_c254 s_c254 : Nat) (F_c254 : hF) (A_c254 : hA) , rlook ls 0 = some (.ref (D_c254 0)) → rlook ls 3 = some (I (x4_3)) → rlook ls 5 = some (I (z19)) → rlook ls 6 = some (I ((x4_2 + 4))) → rlook ls 7 = some (I (tc100_0)) → HW V228 σ D_c254 N_c254 F_c254 A_c254 → OUT (V228).length D N σE c s D_c254 N_c254 σ c_c254 s_c254 → SD [3] D_4 D_c254 → SD [3] N_4 N_c254 → SF [(0, 11), (0, 12), (2, 0), (2, 1), (2, 2)] F_c219 F_c254 → SA [3] A_c219 A_c254 → F_c254 2 0 = (D_c254 3 : Int) → ∀ mc254_3 : Int, (N_c254 3 : Int) = mc254_3 → ∀ yc254_2_1 : Int, F_c254 2 1 = yc254_2_1 → (inr (tc254_0)) → (0 ≤ (tc254_0) ∧ (tc254_0) ≤ 3) → (0 ≤ (yc254_2_1) ∧ (yc254_2_1) ≤ (mc254_3) ∧ (mc254_3) ≤ 65536) → ((u2_1) ≤ (yc254_2_1) ∧ (yc254_2_1) ≤ (u0_7)) → Ew 228 (d + 4) 254 ls [I (tc254_0)] σ c_c254 s_c254 Q := by
                     as_aux_lemma =>
                      intro tc254_0 ls σ D_c254 N_c254 c_c254 s_c254 F_c254 A_c254  lc254_0 lc254_3 lc254_5 lc254_6 lc254_7 H O hD_c254 hN_c254 hS_c254 hA_c254 pmc254_3 mc254_3 emc254_3 yc254_2_1 eyc254_2_1  jc254_0 jc254_1 jc254_2 jc254_3
                      have pf_c254_0_1 : F_c254 0 1 = (D_c254 4 : Int) := (hS_c254 0 1 rfl).trans (((((((hS_c219 0 1 rfl).trans (hS_c174 0 1 rfl)).trans (hS_c100 0 1 rfl)).trans ((show F18 0 1 = F_4 0 1 from (eF18 0 1))))).trans (pf_4_0_1)).trans (congrArg (fun q : Nat => (q : Int)) (hD_c254 4 rfl).symm))
                      have pf_c254_0_4 : F_c254 0 4 = (D_c254 1 : Int) := (hS_c254 0 4 rfl).trans (((((((hS_c219 0 4 rfl).trans (hS_c174 0 4 rfl)).trans (hS_c100 0 4 rfl)).trans ((show F18 0 4 = F_4 0 4 from (eF18 0 4))))).trans (pf_4_0_4)).trans (congrArg (fun q : Nat => (q : Int)) (hD_c254 1 rfl).symm))
                      have pf_c254_0_6 : F_c254 0 6 = (D_c254 2 : Int) := (hS_c254 0 6 rfl).trans (((((((hS_c219 0 6 rfl).trans (hS_c174 0 6 rfl)).trans (hS_c100 0 6 rfl)).trans ((show F18 0 6 = F_4 0 6 from (eF18 0 6))))).trans (pf_4_0_6)).trans (congrArg (fun q : Nat => (q : Int)) (hD_c254 2 rfl).symm))
                      have pf_c254_4_0 : F_c254 4 0 = (D_c254 5 : Int) := (hS_c254 4 0 rfl).trans (((((((hS_c219 4 0 rfl).trans (hS_c174 4 0 rfl)).trans (hS_c100 4 0 rfl)).trans ((show F18 4 0 = F_4 4 0 from (eF18 4 0))))).trans (pf_4_4_0)).trans (congrArg (fun q : Nat => (q : Int)) (hD_c254 5 rfl).symm))
                      have r27 : (0 : Int) ≤ mc254_3 ∧ mc254_3 ≤ 1000000 := by have h1 := H.nle 3 (by decide); have h2 : (N_c254 3 : Int) = mc254_3 := emc254_3; omega
                      have r28 : (-2147483648 : Int) ≤ yc254_2_1 ∧ yc254_2_1 ≤ 2147483647 := by have h1 : (-2147483648 : Int) ≤ F_c254 2 1 ∧ F_c254 2 1 ≤ 2147483647 := H.krg 2 1 (by decide); rw [show F_c254 2 1 = yc254_2_1 from (eyc254_2_1)] at h1; exact h1
                      refine Ew_of (pcₚ := 256) (fun _ => x_istore rfl) ?_
                      refine Ew_of (pcₚ := 258) (fun _ => x_iload rfl rk_s) ?_
                      refine w_ifeq (t := 275) rfl rfl (show inr (tc254_0) by omega) (fun b29 => ?_) (fun b29 => ?_)
                      · refine Ew_of (pcₚ := 277) (fun _ => x_iload rfl (rk_o (lc254_6) rfl rfl)) ?_
                        refine Ew_of (pcₚ := 279) (fun _ => x_iload rfl (rk_o (lc254_5) rfl rfl)) ?_
                        refine w_iadd rfl ?_
                        refine Ew_of (pcₚ := 282) (fun _ => x_iload rfl (rk_o (lc254_7) rfl rfl)) ?_
                        refine w_iadd rfl ?_
                        refine Ew_of (pcₚ := 284) (fun _ => x_istore_n rfl) ?_
                        refine Ew_of (pcₚ := 287) (fun _ => x_iinc (len := 3) rfl (rk_o (rk_o (lc254_3) rfl rfl) rfl rfl)) ?_
                        refine Ew_of (pcₚ := 4) (fun _ => x_goto rfl rfl) ?_
                        exact ih4 _ (by omega) _ _ _ _ _ _ _ _ ((((x4_2 + 4) + z19) + tc100_0)) ((x4_3 + 1)) (rk_o (rk_o (rk_o (lc254_0) rfl rfl) rfl rfl) rfl rfl) (rk_o (rk_s) rfl rfl) (rk_s) H O (SD_trans (hD_4) hD_c254 (any_subA rfl)) (SD_trans (hN_4) hN_c254 (any_subA rfl)) (SF_trans (SF_trans (SF_trans (SF_trans (SF_trans (hS_4) (SF_glu (ι := [1]) hS18 eF18 (by decide +kernel)) (any_sub (lₚ := []) rfl)) hS_c100 (any_sub rfl)) hS_c174 (any_sub rfl)) hS_c219 (any_sub rfl)) hS_c254 (any_sub rfl)) (SA_trans (SA_trans (SA_trans (SA_trans (SA_trans (hA_4) (SA_glu (ι := [1]) hA18 eA18 (by decide +kernel)) (any_subA (lₚ := []) rfl)) hA_c100 (any_subA rfl)) hA_c174 (any_subA rfl)) hA_c219 (any_subA rfl)) hA_c254 (any_subA rfl)) (pmc254_3) (mc254_3) (emc254_3) (yc254_2_1) ((eyc254_2_1))  (show inr ((((x4_2 + 4) + z19) + tc100_0)) by omega) (show inr ((x4_3 + 1)) by omega) (show (a1) ≤ ((x4_3 + 1)) by omega) (show ((x4_3 + 1)) ≤ (a1) ∨ ((x4_3 + 1)) ≤ (((u0_5) + 1)) by omega) (show (a1) ≤ ((((x4_2 + 4) + z19) + tc100_0)) ∧ ((((x4_2 + 4) + z19) + tc100_0)) ≤ (u0_5) by omega) (show 0 ≤ (yc254_2_1) ∧ (yc254_2_1) ≤ (mc254_3) ∧ (mc254_3) ≤ 65536 by omega) (show (u2_1) ≤ (yc254_2_1) ∧ (yc254_2_1) ≤ (u0_7) by omega) rfl
                      · refine Ew_of (pcₚ := 263) (fun _ => x_iload rfl rk_s) ?_
                        refine Ew_of (pcₚ := 264) (fun _ => x_iconst rfl) ?_
                        refine w_icmpne (t := 272) rfl rfl (show inr (tc254_0) by omega) (show inr (1) by omega) (fun b30 => ?_) (fun b30 => ?_)
                        · refine Ew_of (pcₚ := 274) (fun _ => x_iload rfl rk_s) ?_
                          have r31 : (-2147483648 : Int) ≤ F_c254 0 12 ∧ F_c254 0 12 ≤ 2147483647 := by have h1 : (-2147483648 : Int) ≤ F_c254 0 12 ∧ F_c254 0 12 ≤ 2147483647 := H.krg 0 12 (by decide); rw [show F_c254 0 12 = F_c254 0 12 from rfl] at h1; exact h1
                          exact w_ireturn rfl (k (tc254_0) _ _ _ _ _ _ _ H O (SD_trans (SD_trans (SD_refl) hD_4 (any_subA rfl)) hD_c254 (any_subA rfl)) (SD_trans (SD_trans (SD_refl) hN_4 (any_subA rfl)) hN_c254 (any_subA rfl)) (SF_trans (SF_trans (SF_trans (SF_trans (SF_trans (SF_trans (SF_refl) hS_4 (any_sub rfl)) (SF_glu (ι := [1]) hS18 eF18 (by decide +kernel)) (any_sub (lₚ := []) rfl)) hS_c100 (any_sub rfl)) hS_c174 (any_sub rfl)) hS_c219 (any_sub rfl)) hS_c254 (any_sub rfl)) (SA_trans (SA_trans (SA_trans (SA_trans (SA_trans (SA_trans (SA_refl) hA_4 (any_subA rfl)) (SA_glu (ι := [1]) hA18 eA18 (by decide +kernel)) (any_subA (lₚ := []) rfl)) hA_c100 (any_subA rfl)) hA_c174 (any_subA rfl)) hA_c219 (any_subA rfl)) hA_c254 (any_subA rfl)) (pmc254_3) (mc254_3) (emc254_3) (F_c254 0 12) (rfl) (yc254_2_1) ((eyc254_2_1)) (show inr (tc254_0) by omega) (show 0 ≤ (tc254_0) ∧ (tc254_0) ≤ 9 by omega) (show 0 ≤ (yc254_2_1) ∧ (yc254_2_1) ≤ (mc254_3) ∧ (mc254_3) ≤ 65536 by omega) (show (u2_1) ≤ (yc254_2_1) ∧ (yc254_2_1) ≤ (u0_7) by omega) (show (tc254_0) = 0 → a1 + 4 ≤ (F_c254 0 12) ∧ (F_c254 0 12) ≤ (u0_5) by omega))
                        · refine Ew_of (pcₚ := 269) (fun _ => x_bipush (z := 9) rfl (by decide)) ?_
                          refine Ew_of (pcₚ := 274) (fun _ => x_goto rfl rfl) ?_
                          have r32 : (-2147483648 : Int) ≤ F_c254 0 12 ∧ F_c254 0 12 ≤ 2147483647 := by have h1 : (-2147483648 : Int) ≤ F_c254 0 12 ∧ F_c254 0 12 ≤ 2147483647 := H.krg 0 12 (by decide); rw [show F_c254 0 12 = F_c254 0 12 from rfl] at h1; exact h1
                          exact w_ireturn rfl (k (9) _ _ _ _ _ _ _ H O (SD_trans (SD_trans (SD_refl) hD_4 (any_subA rfl)) hD_c254 (any_subA rfl)) (SD_trans (SD_trans (SD_refl) hN_4 (any_subA rfl)) hN_c254 (any_subA rfl)) (SF_trans (SF_trans (SF_trans (SF_trans (SF_trans (SF_trans (SF_refl) hS_4 (any_sub rfl)) (SF_glu (ι := [1]) hS18 eF18 (by decide +kernel)) (any_sub (lₚ := []) rfl)) hS_c100 (any_sub rfl)) hS_c174 (any_sub rfl)) hS_c219 (any_sub rfl)) hS_c254 (any_sub rfl)) (SA_trans (SA_trans (SA_trans (SA_trans (SA_trans (SA_trans (SA_refl) hA_4 (any_subA rfl)) (SA_glu (ι := [1]) hA18 eA18 (by decide +kernel)) (any_subA (lₚ := []) rfl)) hA_c100 (any_subA rfl)) hA_c174 (any_subA rfl)) hA_c219 (any_subA rfl)) hA_c254 (any_subA rfl)) (pmc254_3) (mc254_3) (emc254_3) (F_c254 0 12) (rfl) (yc254_2_1) ((eyc254_2_1)) (show inr (9) by omega) (show 0 ≤ (9) ∧ (9) ≤ 9 by omega) (show 0 ≤ (yc254_2_1) ∧ (yc254_2_1) ≤ (mc254_3) ∧ (mc254_3) ≤ 65536 by omega) (show (u2_1) ≤ (yc254_2_1) ∧ (yc254_2_1) ≤ (u0_7) by omega) (show (9) = 0 → a1 + 4 ≤ (F_c254 0 12) ∧ (F_c254 0 12) ≤ (u0_5) by omega))
                    refine Ew_of (pcₚ := 223) (fun _ => x_iload rfl (rk_o (lc219_4) rfl rfl)) ?_
                    refine w_ifge (t := 239) rfl rfl (show inr (z18) by omega) (fun b33 => ?_) (fun b33 => ?_)
                    · refine Ew_of (pcₚ := 240) (fun _ => x_aload_n rfl (rk_o (lc219_0) rfl rfl)) ?_
                      refine Ew_of (pcₚ := 242) (fun _ => x_iload rfl (rk_o (lc219_6) rfl rfl)) ?_
                      refine Ew_of (pcₚ := 244) (fun _ => x_iload rfl (rk_o (lc219_6) rfl rfl)) ?_
                      refine Ew_of (pcₚ := 246) (fun _ => x_iload rfl (rk_o (lc219_5) rfl rfl)) ?_
                      refine w_iadd rfl ?_
                      refine Ew_of (pcₚ := 249) (fun _ => x_iload rfl rk_s) ?_
                      refine Ew_of (pcₚ := 251) (fun _ => x_iload rfl (rk_o (lc219_8) rfl rfl)) ?_
                      refine v_inv H (o := 0) rfl rfl rfl rfl rfl rfl (by rfl) (C224 (D := pul [0, 1, 2, 3, 4, 5] D_4) (N := pul [0, 1, 2, 3, 4, 5] N_4) (HW_sub H (VS_of (show vsub V228 V224 [0, 1, 2, 3, 4, 5] = true by decide +kernel))) ((((((hS_c219 0 4 rfl).trans (hS_c174 0 4 rfl)).trans (hS_c100 0 4 rfl)).trans ((show F18 0 4 = F_4 0 4 from (eF18 0 4))))).trans (pf_4_0_4)) ((((((hS_c219 0 6 rfl).trans (hS_c174 0 6 rfl)).trans (hS_c100 0 6 rfl)).trans ((show F18 0 6 = F_4 0 6 from (eF18 0 6))))).trans (pf_4_0_6)) ((((((hS_c219 2 0 rfl).trans (hS_c174 2 0 rfl)).trans (hS_c100 2 0 rfl)).trans ((show F18 2 0 = F_4 2 0 from (eF18 2 0))))).trans (pm4_3)) ((((((hS_c219 0 1 rfl).trans (hS_c174 0 1 rfl)).trans (hS_c100 0 1 rfl)).trans ((show F18 0 1 = F_4 0 1 from (eF18 0 1))))).trans (pf_4_0_1)) ((((((hS_c219 4 0 rfl).trans (hS_c174 4 0 rfl)).trans (hS_c100 4 0 rfl)).trans ((show F18 4 0 = F_4 4 0 from (eF18 4 0))))).trans (pf_4_4_0)) (n1) ((congrArg (fun q : Nat => (q : Int)) (hN_4 1 rfl)).trans (en1)) (m4_3) (em4_3) (n5) ((congrArg (fun q : Nat => (q : Int)) (hN_4 5 rfl)).trans (en5)) (y4_2_1) ((((((hS_c219 2 1 rfl).trans (hS_c174 2 1 rfl)).trans (hS_c100 2 1 rfl)).trans ((show F18 2 1 = F_4 2 1 from (eF18 2 1)))).trans (ey4_2_1))) (u4_1) (((((((hS_c219 4 1 rfl).trans (hS_c174 4 1 rfl)).trans (hS_c100 4 1 rfl)).trans ((show F18 4 1 = F_4 4 1 from (eF18 4 1)))).trans (hS_4 4 1 rfl)).trans (eu4_1))) (show inr ((x4_2 + 4)) by omega) (show inr (((x4_2 + 4) + z19)) by omega) (show inr (tc219_0) by omega) (show inr (z25) by omega) (show 0 ≤ ((x4_2 + 4)) ∧ ((x4_2 + 4)) ≤ (((x4_2 + 4) + z19)) ∧ (((x4_2 + 4) + z19)) ≤ (n1) ∧ (n1) ≤ 65536 by omega) (show 0 ≤ (y4_2_1) ∧ (y4_2_1) ≤ (m4_3) ∧ (m4_3) ≤ 65536 by omega) (show 0 ≤ (u4_1) ∧ (u4_1) ≤ (n5) ∧ (n5) ≤ 65536 by omega) (show 0 ≤ (tc219_0) ∧ (tc219_0) ≤ (y4_2_1) by omega) (show 0 ≤ (z25) ∧ (z25) ≤ 65536 by omega) (fun z34 σ34 D34ₚ N34ₚ F34ₚ A34ₚ c34 s34 Hₚ Oₚ hD34 hN34 hS34 hA34 pm34_3 m34_3 em34_3 y34_2_1 ey34_2_1 pz34_0 pz34_1 pz34_2 pz34_3 pz34_4 => ⟨rfl, ?_⟩))
                      refine v_backM (c := c_4) (s := s_4) H (show vsub V228 V224 [0, 1, 2, 3, 4, 5] = true by decide +kernel) Hₚ Oₚ hD34 (show vmov V228 [0, 1, 2, 3, 4, 5] [3] = true by decide +kernel) (fun D34 N34 F34 A34 H Oₚ eD34 eN34 eF34 eA34 => ?_)
                      have O := OUT_trans O Oₚ
                      -- Tokens.unpackBlock
                      have pf34_0_1 : F34 0 1 = (D34 4 : Int) := ((show F34 0 1 = F_c219 0 1 from (eF34 0 1).trans (hS34 0 1 rfl))).trans (((((((hS_c219 0 1 rfl).trans (hS_c174 0 1 rfl)).trans (hS_c100 0 1 rfl)).trans ((show F18 0 1 = F_4 0 1 from (eF18 0 1))))).trans (pf_4_0_1)).trans (congrArg (fun q : Nat => (q : Int)) ((show D34 4 = D_4 4 from (eD34 4).trans (hD34 4 rfl))).symm))
                      have pf34_0_4 : F34 0 4 = (D34 1 : Int) := ((show F34 0 4 = F_c219 0 4 from (eF34 0 4).trans (hS34 0 4 rfl))).trans (((((((hS_c219 0 4 rfl).trans (hS_c174 0 4 rfl)).trans (hS_c100 0 4 rfl)).trans ((show F18 0 4 = F_4 0 4 from (eF18 0 4))))).trans (pf_4_0_4)).trans (congrArg (fun q : Nat => (q : Int)) ((show D34 1 = D_4 1 from (eD34 1).trans (hD34 1 rfl))).symm))
                      have pf34_0_6 : F34 0 6 = (D34 2 : Int) := ((show F34 0 6 = F_c219 0 6 from (eF34 0 6).trans (hS34 0 6 rfl))).trans (((((((hS_c219 0 6 rfl).trans (hS_c174 0 6 rfl)).trans (hS_c100 0 6 rfl)).trans ((show F18 0 6 = F_4 0 6 from (eF18 0 6))))).trans (pf_4_0_6)).trans (congrArg (fun q : Nat => (q : Int)) ((show D34 2 = D_4 2 from (eD34 2).trans (hD34 2 rfl))).symm))
                      have pf34_2_0 : F34 2 0 = (D34 3 : Int) := (eF34 2 0).trans (pm34_3.trans (congrArg (fun q : Nat => (q : Int)) (eD34 3).symm))
                      have pf34_4_0 : F34 4 0 = (D34 5 : Int) := ((show F34 4 0 = F_c219 4 0 from (eF34 4 0).trans (hS34 4 0 rfl))).trans (((((((hS_c219 4 0 rfl).trans (hS_c174 4 0 rfl)).trans (hS_c100 4 0 rfl)).trans ((show F18 4 0 = F_4 4 0 from (eF18 4 0))))).trans (pf_4_4_0)).trans (congrArg (fun q : Nat => (q : Int)) ((show D34 5 = D_4 5 from (eD34 5).trans (hD34 5 rfl))).symm))
                      have r35 : (0 : Int) ≤ m34_3 ∧ m34_3 ≤ 1000000 := by have h1 := H.nle 3 (by decide); have h2 : (N34 3 : Int) = m34_3 := (congrArg (fun q : Nat => (q : Int)) (eN34 3)).trans em34_3; omega
                      have r36 : (-2147483648 : Int) ≤ y34_2_1 ∧ y34_2_1 ≤ 2147483647 := by have h1 : (-2147483648 : Int) ≤ F34 2 1 ∧ F34 2 1 ≤ 2147483647 := H.krg 2 1 (by decide); rw [show F34 2 1 = y34_2_1 from ((eF34 2 1).trans ey34_2_1)] at h1; exact h1
                      exact hc254 (z34) _ _ _ _ _ _ _ _  ((rk_o (lc219_0) rfl rfl).trans (congrArg (fun q : Nat => some (Value.ref q)) (((show D34 0 = D_4 0 from (eD34 0).trans (hD34 0 rfl)))).symm)) (rk_o (lc219_3) rfl rfl) (rk_o (lc219_5) rfl rfl) (rk_o (lc219_6) rfl rfl) (rk_o (lc219_7) rfl rfl) H O (SD_trans (SD_refl) (SD_glu (ι := [0, 1, 2, 3, 4, 5]) hD34 eD34 (by decide +kernel)) (any_subA (lₚ := [3]) rfl)) (SD_trans (SD_refl) (SD_glu (ι := [0, 1, 2, 3, 4, 5]) hN34 eN34 (by decide +kernel)) (any_subA (lₚ := [3]) rfl)) (SF_trans (SF_refl) (SF_glu (ι := [0, 1, 2, 3, 4, 5]) hS34 eF34 (by decide +kernel)) (any_sub (lₚ := [(0, 11), (0, 12), (2, 0), (2, 1), (2, 2)]) rfl)) (SA_trans (SA_refl) (SA_glu (ι := [0, 1, 2, 3, 4, 5]) hA34 eA34 (by decide +kernel)) (any_subA (lₚ := [3]) rfl)) (pf34_2_0) (m34_3) ((congrArg (fun q : Nat => (q : Int)) (eN34 3)).trans em34_3) (y34_2_1) (((eF34 2 1).trans ey34_2_1))  (show inr (z34) by omega) (show 0 ≤ (z34) ∧ (z34) ≤ 3 by omega) (show 0 ≤ (y34_2_1) ∧ (y34_2_1) ≤ (m34_3) ∧ (m34_3) ≤ 65536 by omega) (show (u2_1) ≤ (y34_2_1) ∧ (y34_2_1) ≤ (u0_7) by omega)
                    · refine Ew_of (pcₚ := 227) (fun _ => x_aload_n rfl (rk_o (lc219_0) rfl rfl)) ?_
                      refine Ew_of (pcₚ := 229) (fun _ => x_iload rfl (rk_o (lc219_6) rfl rfl)) ?_
                      refine Ew_of (pcₚ := 231) (fun _ => x_iload rfl (rk_o (lc219_5) rfl rfl)) ?_
                      refine Ew_of (pcₚ := 233) (fun _ => x_iload rfl (rk_o (lc219_8) rfl rfl)) ?_
                      refine v_inv H (o := 0) rfl rfl rfl rfl rfl rfl (by rfl) (C229 (D := pul [0, 1, 2, 3] D_4) (N := pul [0, 1, 2, 3] N_4) (HW_sub H (VS_of (show vsub V228 V229 [0, 1, 2, 3] = true by decide +kernel))) ((((((hS_c219 0 4 rfl).trans (hS_c174 0 4 rfl)).trans (hS_c100 0 4 rfl)).trans ((show F18 0 4 = F_4 0 4 from (eF18 0 4))))).trans (pf_4_0_4)) ((((((hS_c219 0 6 rfl).trans (hS_c174 0 6 rfl)).trans (hS_c100 0 6 rfl)).trans ((show F18 0 6 = F_4 0 6 from (eF18 0 6))))).trans (pf_4_0_6)) ((((((hS_c219 2 0 rfl).trans (hS_c174 2 0 rfl)).trans (hS_c100 2 0 rfl)).trans ((show F18 2 0 = F_4 2 0 from (eF18 2 0))))).trans (pm4_3)) (n1) ((congrArg (fun q : Nat => (q : Int)) (hN_4 1 rfl)).trans (en1)) (m4_3) (em4_3) (y4_2_1) ((((((hS_c219 2 1 rfl).trans (hS_c174 2 1 rfl)).trans (hS_c100 2 1 rfl)).trans ((show F18 2 1 = F_4 2 1 from (eF18 2 1)))).trans (ey4_2_1))) (show inr ((x4_2 + 4)) by omega) (show inr (z19) by omega) (show inr (z25) by omega) (show 0 ≤ ((x4_2 + 4)) ∧ 0 ≤ (z19) ∧ ((x4_2 + 4)) + (z19) ≤ (n1) ∧ (n1) ≤ 65536 by omega) (show 0 ≤ (y4_2_1) ∧ (y4_2_1) ≤ (m4_3) ∧ (m4_3) ≤ 65536 by omega) (show (y4_2_1) ≤ (z25) ∧ (z25) ≤ 65536 by omega) (fun z37 σ37 D37ₚ N37ₚ F37ₚ A37ₚ c37 s37 Hₚ Oₚ hD37 hN37 hS37 hA37 pm37_3 m37_3 em37_3 y37_2_1 ey37_2_1 pz37_0 pz37_1 pz37_2 pz37_3 => ⟨rfl, ?_⟩))
                      refine v_backM (c := c_4) (s := s_4) H (show vsub V228 V229 [0, 1, 2, 3] = true by decide +kernel) Hₚ Oₚ hD37 (show vmov V228 [0, 1, 2, 3] [3] = true by decide +kernel) (fun D37 N37 F37 A37 H Oₚ eD37 eN37 eF37 eA37 => ?_)
                      have O := OUT_trans O Oₚ
                      -- Tokens.unpackPlain
                      have pf37_0_1 : F37 0 1 = (D37 4 : Int) := ((show F37 0 1 = F_c219 0 1 from (eF37 0 1).trans (hS37 0 1 rfl))).trans (((((((hS_c219 0 1 rfl).trans (hS_c174 0 1 rfl)).trans (hS_c100 0 1 rfl)).trans ((show F18 0 1 = F_4 0 1 from (eF18 0 1))))).trans (pf_4_0_1)).trans (congrArg (fun q : Nat => (q : Int)) ((show D37 4 = D_4 4 from (eD37 4))).symm))
                      have pf37_0_4 : F37 0 4 = (D37 1 : Int) := ((show F37 0 4 = F_c219 0 4 from (eF37 0 4).trans (hS37 0 4 rfl))).trans (((((((hS_c219 0 4 rfl).trans (hS_c174 0 4 rfl)).trans (hS_c100 0 4 rfl)).trans ((show F18 0 4 = F_4 0 4 from (eF18 0 4))))).trans (pf_4_0_4)).trans (congrArg (fun q : Nat => (q : Int)) ((show D37 1 = D_4 1 from (eD37 1).trans (hD37 1 rfl))).symm))
                      have pf37_0_6 : F37 0 6 = (D37 2 : Int) := ((show F37 0 6 = F_c219 0 6 from (eF37 0 6).trans (hS37 0 6 rfl))).trans (((((((hS_c219 0 6 rfl).trans (hS_c174 0 6 rfl)).trans (hS_c100 0 6 rfl)).trans ((show F18 0 6 = F_4 0 6 from (eF18 0 6))))).trans (pf_4_0_6)).trans (congrArg (fun q : Nat => (q : Int)) ((show D37 2 = D_4 2 from (eD37 2).trans (hD37 2 rfl))).symm))
                      have pf37_2_0 : F37 2 0 = (D37 3 : Int) := (eF37 2 0).trans (pm37_3.trans (congrArg (fun q : Nat => (q : Int)) (eD37 3).symm))
                      have pf37_4_0 : F37 4 0 = (D37 5 : Int) := ((show F37 4 0 = F_c219 4 0 from (eF37 4 0))).trans (((((((hS_c219 4 0 rfl).trans (hS_c174 4 0 rfl)).trans (hS_c100 4 0 rfl)).trans ((show F18 4 0 = F_4 4 0 from (eF18 4 0))))).trans (pf_4_4_0)).trans (congrArg (fun q : Nat => (q : Int)) ((show D37 5 = D_4 5 from (eD37 5))).symm))
                      have r38 : (0 : Int) ≤ m37_3 ∧ m37_3 ≤ 1000000 := by have h1 := H.nle 3 (by decide); have h2 : (N37 3 : Int) = m37_3 := (congrArg (fun q : Nat => (q : Int)) (eN37 3)).trans em37_3; omega
                      have r39 : (-2147483648 : Int) ≤ y37_2_1 ∧ y37_2_1 ≤ 2147483647 := by have h1 : (-2147483648 : Int) ≤ F37 2 1 ∧ F37 2 1 ≤ 2147483647 := H.krg 2 1 (by decide); rw [show F37 2 1 = y37_2_1 from ((eF37 2 1).trans ey37_2_1)] at h1; exact h1
                      refine Ew_of (pcₚ := 254) (fun _ => x_goto rfl rfl) ?_
                      exact hc254 (z37) _ _ _ _ _ _ _ _  ((rk_o (lc219_0) rfl rfl).trans (congrArg (fun q : Nat => some (Value.ref q)) (((show D37 0 = D_4 0 from (eD37 0).trans (hD37 0 rfl)))).symm)) (rk_o (lc219_3) rfl rfl) (rk_o (lc219_5) rfl rfl) (rk_o (lc219_6) rfl rfl) (rk_o (lc219_7) rfl rfl) H O (SD_trans (SD_refl) (SD_glu (ι := [0, 1, 2, 3]) hD37 eD37 (by decide +kernel)) (any_subA (lₚ := [3]) rfl)) (SD_trans (SD_refl) (SD_glu (ι := [0, 1, 2, 3]) hN37 eN37 (by decide +kernel)) (any_subA (lₚ := [3]) rfl)) (SF_trans (SF_refl) (SF_glu (ι := [0, 1, 2, 3]) hS37 eF37 (by decide +kernel)) (any_sub (lₚ := [(0, 12), (2, 0), (2, 1), (2, 2)]) rfl)) (SA_trans (SA_refl) (SA_glu (ι := [0, 1, 2, 3]) hA37 eA37 (by decide +kernel)) (any_subA (lₚ := [3]) rfl)) (pf37_2_0) (m37_3) ((congrArg (fun q : Nat => (q : Int)) (eN37 3)).trans em37_3) (y37_2_1) (((eF37 2 1).trans ey37_2_1))  (show inr (z37) by omega) (show 0 ≤ (z37) ∧ (z37) ≤ 3 by omega) (show 0 ≤ (y37_2_1) ∧ (y37_2_1) ≤ (m37_3) ∧ (m37_3) ≤ 65536 by omega) (show (u2_1) ≤ (y37_2_1) ∧ (y37_2_1) ≤ (u0_7) by omega)
                  refine w_ifeq (t := 215) rfl rfl (show inr (z26) by omega) (fun b40 => ?_) (fun b40 => ?_)
                  · refine Ew_of (pcₚ := 216) (fun _ => x_aload_n rfl (rk_o (lc174_0) rfl rfl)) ?_
                    refine v_g H (o := 0) (v := I (u0_10)) rfl rfl rfl rfl rfl (congrArg (fun z : Int => I z) ((((((hS_c174 0 10 rfl).trans (hS_c100 0 10 rfl)).trans ((show F18 0 10 = F_4 0 10 from (eF18 0 10)))).trans (hS_4 0 10 rfl)).trans (eu0_10)) : F_c174 0 10 = u0_10)) ?_
                    exact hc219 (u0_10) _ _ _ _  (rk_o (lc174_0) rfl rfl) (rk_o (lc174_3) rfl rfl) (rk_o (lc174_4) rfl rfl) (rk_o (lc174_5) rfl rfl) (rk_o (lc174_6) rfl rfl) (rk_o (lc174_7) rfl rfl) (rk_s) H O (SF_refl) (SA_refl)     (show inr (u0_10) by omega) (show ((z26) = (0) ∧ (u0_10) = (u0_10)) ∨ ((z26) ≠ (0) ∧ (u0_10) = (y4_2_1)) by omega)
                  · refine Ew_of (pcₚ := 206) (fun _ => x_aload_n rfl (rk_o (lc174_0) rfl rfl)) ?_
                    refine v_g H (o := 0) (v := .ref (D_4 2)) rfl rfl rfl rfl rfl (vrf (((((hS_c174 0 6 rfl).trans (hS_c100 0 6 rfl)).trans ((show F18 0 6 = F_4 0 6 from (eF18 0 6))))).trans (pf_4_0_6))) ?_
                    refine v_g H (o := 2) (v := I (y4_2_1)) rfl rfl rfl rfl rfl (congrArg (fun z : Int => I z) (((((hS_c174 2 1 rfl).trans (hS_c100 2 1 rfl)).trans ((show F18 2 1 = F_4 2 1 from (eF18 2 1)))).trans (ey4_2_1)) : F_c174 2 1 = y4_2_1)) ?_
                    refine Ew_of (pcₚ := 219) (fun _ => x_goto rfl rfl) ?_
                    exact hc219 (y4_2_1) _ _ _ _  (rk_o (lc174_0) rfl rfl) (rk_o (lc174_3) rfl rfl) (rk_o (lc174_4) rfl rfl) (rk_o (lc174_5) rfl rfl) (rk_o (lc174_6) rfl rfl) (rk_o (lc174_7) rfl rfl) (rk_s) H O (SF_refl) (SA_refl)     (show inr (y4_2_1) by omega) (show ((z26) = (0) ∧ (y4_2_1) = (u0_10)) ∨ ((z26) ≠ (0) ∧ (y4_2_1) = (y4_2_1)) by omega)
                refine Ew_of (pcₚ := 129) (fun _ => x_iload rfl rk_s) ?_
                refine w_ifle (t := 174) rfl rfl (show inr (tc100_0) by omega) (fun b41 => ?_) (fun b41 => ?_)
                · exact hc174  _ _ _ _  (rk_o (lc100_0) rfl rfl) (rk_o (lc100_3) rfl rfl) (rk_o (lc100_4) rfl rfl) (rk_o (lc100_5) rfl rfl) (rk_o (lc100_6) rfl rfl) (rk_s) H O (SF_refl) (SA_refl)
                · refine Ew_of (pcₚ := 133) (fun _ => x_aload_n rfl (rk_o (lc100_0) rfl rfl)) ?_
                  refine v_g H (o := 0) (v := .ref (D_4 1)) rfl rfl rfl rfl rfl (vrf ((((hS_c100 0 4 rfl).trans ((show F18 0 4 = F_4 0 4 from (eF18 0 4))))).trans (pf_4_0_4))) ?_
                  refine Ew_of (pcₚ := 138) (fun _ => x_iload rfl (rk_o (lc100_6) rfl rfl)) ?_
                  refine Ew_of (pcₚ := 140) (fun _ => x_iload rfl (rk_o (lc100_5) rfl rfl)) ?_
                  refine w_iadd rfl ?_
                  refine w_stat25 rfl rfl (by rfl) (C41_Br (D := pul [1] D_4) (N := pul [1] N_4) (HW_sub H (VS_of (show vsub V228 V41_Br [1] = true by decide +kernel))) (n1) ((congrArg (fun q : Nat => (q : Int)) (hN_4 1 rfl)).trans (en1)) (show inr (((x4_2 + 4) + z19)) by omega) (show 0 ≤ (((x4_2 + 4) + z19)) ∧ (((x4_2 + 4) + z19)) + 4 ≤ (n1) by omega) (fun z42 σ42 F42ₚ A42ₚ Hₚ Oₚ hS42 hA42 pz42_0 => ⟨rfl, ?_⟩))
                  refine v_back (c := c_4) (s := s_4) H (show vsub V228 V41_Br [1] = true by decide +kernel) Hₚ Oₚ (fun F42 A42 H Oₚ eF42 eA42 => ?_)
                  have O := OUT_trans O Oₚ
                  -- PackHouse.word
                  refine Ew_of (pcₚ := 145) (fun _ => x_aload_n rfl (rk_o (lc100_0) rfl rfl)) ?_
                  refine v_g H (o := 0) (v := .ref (D_4 1)) rfl rfl rfl rfl rfl (vrf ((((((show F42 0 4 = F_c100 0 4 from (eF42 0 4))).trans (hS_c100 0 4 rfl)).trans ((show F18 0 4 = F_4 0 4 from (eF18 0 4))))).trans (pf_4_0_4))) ?_
                  refine Ew_of (pcₚ := 150) (fun _ => x_iload rfl (rk_o (lc100_6) rfl rfl)) ?_
                  refine Ew_of (pcₚ := 152) (fun _ => x_iload rfl (rk_o (lc100_6) rfl rfl)) ?_
                  refine Ew_of (pcₚ := 154) (fun _ => x_iload rfl (rk_o (lc100_5) rfl rfl)) ?_
                  refine w_iadd rfl ?_
                  refine Ew_of (pcₚ := 156) (fun _ => x_iconst rfl) ?_
                  refine w_stat25 rfl rfl (by rfl) (C49_Br (D := pul [1] D_4) (N := pul [1] N_4) (HW_sub H (VS_of (show vsub V228 V49_Br [1] = true by decide +kernel))) (n1) ((congrArg (fun q : Nat => (q : Int)) (hN_4 1 rfl)).trans (en1)) (show inr ((x4_2 + 4)) by omega) (show inr (((x4_2 + 4) + z19)) by omega) (show inr (0) by omega) (show 0 ≤ ((x4_2 + 4)) ∧ ((x4_2 + 4)) ≤ (((x4_2 + 4) + z19)) ∧ (((x4_2 + 4) + z19)) ≤ (n1) by omega) (fun z43 σ43 F43ₚ A43ₚ Hₚ Oₚ hS43 hA43 pz43_0 => ⟨rfl, ?_⟩))
                  refine v_back (c := c_4) (s := s_4) H (show vsub V228 V49_Br [1] = true by decide +kernel) Hₚ Oₚ (fun F43 A43 H Oₚ eF43 eA43 => ?_)
                  have O := OUT_trans O Oₚ
                  -- PackHouse.narrowSum
                  refine w_icmpeq (t := 174) rfl rfl (show inr (z42) by omega) (show inr (z43) by omega) (fun b44 => ?_) (fun b44 => ?_)
                  · exact hc174  _ _ _ _  (rk_o (lc100_0) rfl rfl) (rk_o (lc100_3) rfl rfl) (rk_o (lc100_4) rfl rfl) (rk_o (lc100_5) rfl rfl) (rk_o (lc100_6) rfl rfl) (rk_s) H O (SF_trans (SF_trans (SF_refl) (SF_glu (ι := [1]) hS42 eF42 (by decide +kernel)) (any_sub (lₚ := []) rfl)) (SF_glu (ι := [1]) hS43 eF43 (by decide +kernel)) (any_sub (lₚ := []) rfl)) (SA_trans (SA_trans (SA_refl) (SA_glu (ι := [1]) hA42 eA42 (by decide +kernel)) (any_subA (lₚ := []) rfl)) (SA_glu (ι := [1]) hA43 eA43 (by decide +kernel)) (any_subA (lₚ := []) rfl))
                  · refine Ew_of (pcₚ := 163) (fun _ => x_aload_n rfl (rk_o (lc100_0) rfl rfl)) ?_
                    refine Ew_of (pcₚ := 165) (fun _ => x_bipush (z := 8) rfl (by decide)) ?_
                    refine Ew_of (pcₚ := 167) (fun _ => x_iload rfl (rk_o (lc100_6) rfl rfl)) ?_
                    refine Ew_of (pcₚ := 169) (fun _ => x_iload rfl (rk_o (lc100_5) rfl rfl)) ?_
                    refine w_iadd rfl ?_
                    have r45 : (-2147483648 : Int) ≤ F_4 0 12 ∧ F_4 0 12 ≤ 2147483647 := by have h1 : (-2147483648 : Int) ≤ F43 0 12 ∧ F43 0 12 ≤ 2147483647 := H.krg 0 12 (by decide); rw [show F43 0 12 = F_4 0 12 from (((((show F43 0 12 = F42 0 12 from (eF43 0 12))).trans ((show F42 0 12 = F_c100 0 12 from (eF42 0 12)))).trans (hS_c100 0 12 rfl)).trans ((show F18 0 12 = F_4 0 12 from (eF18 0 12))))] at h1; exact h1
                    refine v_inv H (o := 0) rfl rfl rfl rfl rfl rfl (by rfl) (C221 (D := pul [0] D_4) (N := pul [0] N_4) (HW_sub H (VS_of (show vsub V228 V221 [0] = true by decide +kernel))) (F_4 0 12) ((((((show F43 0 12 = F42 0 12 from (eF43 0 12))).trans ((show F42 0 12 = F_c100 0 12 from (eF42 0 12)))).trans (hS_c100 0 12 rfl)).trans ((show F18 0 12 = F_4 0 12 from (eF18 0 12))))) (show inr (8) by omega) (show inr (((x4_2 + 4) + z19)) by omega) (fun z46 σ46 F46ₚ A46ₚ Hₚ Oₚ hS46 hA46 y46_0_12 ey46_0_12 pz46_0 pz46_1 pz46_2 => ⟨rfl, ?_⟩))
                    refine v_back (c := c_4) (s := s_4) H (show vsub V228 V221 [0] = true by decide +kernel) Hₚ Oₚ (fun F46 A46 H Oₚ eF46 eA46 => ?_)
                    have O := OUT_trans O Oₚ
                    -- Tokens.fail
                    have r47 : (-2147483648 : Int) ≤ y46_0_12 ∧ y46_0_12 ≤ 2147483647 := by have h1 : (-2147483648 : Int) ≤ F46 0 12 ∧ F46 0 12 ≤ 2147483647 := H.krg 0 12 (by decide); rw [show F46 0 12 = y46_0_12 from ((eF46 0 12).trans ey46_0_12)] at h1; exact h1
                    exact w_ireturn rfl (k (z46) _ _ _ _ _ _ _ H O (SD_trans (SD_refl) hD_4 (any_subA rfl)) (SD_trans (SD_refl) hN_4 (any_subA rfl)) (SF_trans (SF_trans (SF_trans (SF_trans (SF_trans (SF_trans (SF_refl) hS_4 (any_sub rfl)) (SF_glu (ι := [1]) hS18 eF18 (by decide +kernel)) (any_sub (lₚ := []) rfl)) hS_c100 (any_sub rfl)) (SF_glu (ι := [1]) hS42 eF42 (by decide +kernel)) (any_sub (lₚ := []) rfl)) (SF_glu (ι := [1]) hS43 eF43 (by decide +kernel)) (any_sub (lₚ := []) rfl)) (SF_glu (ι := [0]) hS46 eF46 (by decide +kernel)) (any_sub (lₚ := [(0, 12)]) rfl)) (SA_trans (SA_trans (SA_trans (SA_trans (SA_trans (SA_trans (SA_refl) hA_4 (any_subA rfl)) (SA_glu (ι := [1]) hA18 eA18 (by decide +kernel)) (any_subA (lₚ := []) rfl)) hA_c100 (any_subA rfl)) (SA_glu (ι := [1]) hA42 eA42 (by decide +kernel)) (any_subA (lₚ := []) rfl)) (SA_glu (ι := [1]) hA43 eA43 (by decide +kernel)) (any_subA (lₚ := []) rfl)) (SA_glu (ι := [0]) hA46 eA46 (by decide +kernel)) (any_subA (lₚ := []) rfl)) ((((((((show F46 2 0 = F43 2 0 from (eF46 2 0))).trans ((show F43 2 0 = F42 2 0 from (eF43 2 0)))).trans ((show F42 2 0 = F_c100 2 0 from (eF42 2 0)))).trans (hS_c100 2 0 rfl)).trans ((show F18 2 0 = F_4 2 0 from (eF18 2 0))))).trans (pm4_3)) (m4_3) (em4_3) (y46_0_12) (((eF46 0 12).trans ey46_0_12)) (y4_2_1) ((((((((show F46 2 1 = F43 2 1 from (eF46 2 1))).trans ((show F43 2 1 = F42 2 1 from (eF43 2 1)))).trans ((show F42 2 1 = F_c100 2 1 from (eF42 2 1)))).trans (hS_c100 2 1 rfl)).trans ((show F18 2 1 = F_4 2 1 from (eF18 2 1)))).trans (ey4_2_1))) (show inr (z46) by omega) (show 0 ≤ (z46) ∧ (z46) ≤ 9 by omega) (show 0 ≤ (y4_2_1) ∧ (y4_2_1) ≤ (m4_3) ∧ (m4_3) ≤ 65536 by omega) (show (u2_1) ≤ (y4_2_1) ∧ (y4_2_1) ≤ (u0_7) by omega) (show (z46) = 0 → a1 + 4 ≤ (y46_0_12) ∧ (y46_0_12) ≤ (u0_5) by omega))
              · refine Ew_of (pcₚ := 118) (fun _ => x_aload_n rfl (rk_o (lc100_0) rfl rfl)) ?_
                refine Ew_of (pcₚ := 119) (fun _ => x_iconst rfl) ?_
                refine Ew_of (pcₚ := 120) (fun _ => x_aload_n rfl (rk_o (lc100_0) rfl rfl)) ?_
                refine v_g H (o := 0) (v := I (u0_5)) rfl rfl rfl rfl rfl (congrArg (fun z : Int => I z) (((((hS_c100 0 5 rfl).trans ((show F18 0 5 = F_4 0 5 from (eF18 0 5)))).trans (hS_4 0 5 rfl)).trans (eu0_5)) : F_c100 0 5 = u0_5)) ?_
                have r48 : (-2147483648 : Int) ≤ F_4 0 12 ∧ F_4 0 12 ≤ 2147483647 := by have h1 : (-2147483648 : Int) ≤ F_c100 0 12 ∧ F_c100 0 12 ≤ 2147483647 := H.krg 0 12 (by decide); rw [show F_c100 0 12 = F_4 0 12 from ((hS_c100 0 12 rfl).trans ((show F18 0 12 = F_4 0 12 from (eF18 0 12))))] at h1; exact h1
                refine v_inv H (o := 0) rfl rfl rfl rfl rfl rfl (by rfl) (C221 (D := pul [0] D_4) (N := pul [0] N_4) (HW_sub H (VS_of (show vsub V228 V221 [0] = true by decide +kernel))) (F_4 0 12) (((hS_c100 0 12 rfl).trans ((show F18 0 12 = F_4 0 12 from (eF18 0 12))))) (show inr (1) by omega) (show inr (u0_5) by omega) (fun z49 σ49 F49ₚ A49ₚ Hₚ Oₚ hS49 hA49 y49_0_12 ey49_0_12 pz49_0 pz49_1 pz49_2 => ⟨rfl, ?_⟩))
                refine v_back (c := c_4) (s := s_4) H (show vsub V228 V221 [0] = true by decide +kernel) Hₚ Oₚ (fun F49 A49 H Oₚ eF49 eA49 => ?_)
                have O := OUT_trans O Oₚ
                -- Tokens.fail
                have r50 : (-2147483648 : Int) ≤ y49_0_12 ∧ y49_0_12 ≤ 2147483647 := by have h1 : (-2147483648 : Int) ≤ F49 0 12 ∧ F49 0 12 ≤ 2147483647 := H.krg 0 12 (by decide); rw [show F49 0 12 = y49_0_12 from ((eF49 0 12).trans ey49_0_12)] at h1; exact h1
                exact w_ireturn rfl (k (z49) _ _ _ _ _ _ _ H O (SD_trans (SD_refl) hD_4 (any_subA rfl)) (SD_trans (SD_refl) hN_4 (any_subA rfl)) (SF_trans (SF_trans (SF_trans (SF_trans (SF_refl) hS_4 (any_sub rfl)) (SF_glu (ι := [1]) hS18 eF18 (by decide +kernel)) (any_sub (lₚ := []) rfl)) hS_c100 (any_sub rfl)) (SF_glu (ι := [0]) hS49 eF49 (by decide +kernel)) (any_sub (lₚ := [(0, 12)]) rfl)) (SA_trans (SA_trans (SA_trans (SA_trans (SA_refl) hA_4 (any_subA rfl)) (SA_glu (ι := [1]) hA18 eA18 (by decide +kernel)) (any_subA (lₚ := []) rfl)) hA_c100 (any_subA rfl)) (SA_glu (ι := [0]) hA49 eA49 (by decide +kernel)) (any_subA (lₚ := []) rfl)) ((((((show F49 2 0 = F_c100 2 0 from (eF49 2 0))).trans (hS_c100 2 0 rfl)).trans ((show F18 2 0 = F_4 2 0 from (eF18 2 0))))).trans (pm4_3)) (m4_3) (em4_3) (y49_0_12) (((eF49 0 12).trans ey49_0_12)) (y4_2_1) ((((((show F49 2 1 = F_c100 2 1 from (eF49 2 1))).trans (hS_c100 2 1 rfl)).trans ((show F18 2 1 = F_4 2 1 from (eF18 2 1)))).trans (ey4_2_1))) (show inr (z49) by omega) (show 0 ≤ (z49) ∧ (z49) ≤ 9 by omega) (show 0 ≤ (y4_2_1) ∧ (y4_2_1) ≤ (m4_3) ∧ (m4_3) ≤ 65536 by omega) (show (u2_1) ≤ (y4_2_1) ∧ (y4_2_1) ≤ (u0_7) by omega) (show (z49) = 0 → a1 + 4 ≤ (y49_0_12) ∧ (y49_0_12) ≤ (u0_5) by omega))
            refine w_ifeq (t := 99) rfl rfl (show inr (z23) by omega) (fun b51 => ?_) (fun b51 => ?_)
            · refine Ew_of (pcₚ := 100) (fun _ => x_iconst rfl) ?_
              exact hc100 (0) _ _ _ _  (rk_o (rk_o (rk_o (l4_0) rfl rfl) rfl rfl) rfl rfl) (rk_o (rk_o (rk_o (l4_3) rfl rfl) rfl rfl) rfl rfl) (rk_o (rk_o (rk_s) rfl rfl) rfl rfl) (rk_o (rk_s) rfl rfl) (rk_s) H O (SF_refl) (SA_refl)     (show inr (0) by omega) (show ((z23) = (0) ∧ (0) = (0)) ∨ ((z23) ≠ (0) ∧ (0) = (4)) by omega)
            · refine Ew_of (pcₚ := 96) (fun _ => x_iconst rfl) ?_
              refine Ew_of (pcₚ := 100) (fun _ => x_goto rfl rfl) ?_
              exact hc100 (4) _ _ _ _  (rk_o (rk_o (rk_o (l4_0) rfl rfl) rfl rfl) rfl rfl) (rk_o (rk_o (rk_o (l4_3) rfl rfl) rfl rfl) rfl rfl) (rk_o (rk_o (rk_s) rfl rfl) rfl rfl) (rk_o (rk_s) rfl rfl) (rk_s) H O (SF_refl) (SA_refl)     (show inr (4) by omega) (show ((z23) = (0) ∧ (4) = (0)) ∨ ((z23) ≠ (0) ∧ (4) = (4)) by omega)
          · refine Ew_of (pcₚ := 73) (fun _ => x_aload_n rfl (rk_o (rk_o (l4_0) rfl rfl) rfl rfl)) ?_
            refine Ew_of (pcₚ := 75) (fun _ => x_bipush (z := 7) rfl (by decide)) ?_
            refine Ew_of (pcₚ := 76) (fun _ => x_iload_n rfl (rk_o (rk_o (l4_2) rfl rfl) rfl rfl)) ?_
            have r52 : (-2147483648 : Int) ≤ F_4 0 12 ∧ F_4 0 12 ≤ 2147483647 := by have h1 : (-2147483648 : Int) ≤ F18 0 12 ∧ F18 0 12 ≤ 2147483647 := H.krg 0 12 (by decide); rw [show F18 0 12 = F_4 0 12 from ((show F18 0 12 = F_4 0 12 from (eF18 0 12)))] at h1; exact h1
            refine v_inv H (o := 0) rfl rfl rfl rfl rfl rfl (by rfl) (C221 (D := pul [0] D_4) (N := pul [0] N_4) (HW_sub H (VS_of (show vsub V228 V221 [0] = true by decide +kernel))) (F_4 0 12) (((show F18 0 12 = F_4 0 12 from (eF18 0 12)))) (show inr (7) by omega) (show inr (x4_2) by omega) (fun z53 σ53 F53ₚ A53ₚ Hₚ Oₚ hS53 hA53 y53_0_12 ey53_0_12 pz53_0 pz53_1 pz53_2 => ⟨rfl, ?_⟩))
            refine v_back (c := c_4) (s := s_4) H (show vsub V228 V221 [0] = true by decide +kernel) Hₚ Oₚ (fun F53 A53 H Oₚ eF53 eA53 => ?_)
            have O := OUT_trans O Oₚ
            -- Tokens.fail
            have r54 : (-2147483648 : Int) ≤ y53_0_12 ∧ y53_0_12 ≤ 2147483647 := by have h1 : (-2147483648 : Int) ≤ F53 0 12 ∧ F53 0 12 ≤ 2147483647 := H.krg 0 12 (by decide); rw [show F53 0 12 = y53_0_12 from ((eF53 0 12).trans ey53_0_12)] at h1; exact h1
            exact w_ireturn rfl (k (z53) _ _ _ _ _ _ _ H O (SD_trans (SD_refl) hD_4 (any_subA rfl)) (SD_trans (SD_refl) hN_4 (any_subA rfl)) (SF_trans (SF_trans (SF_trans (SF_refl) hS_4 (any_sub rfl)) (SF_glu (ι := [1]) hS18 eF18 (by decide +kernel)) (any_sub (lₚ := []) rfl)) (SF_glu (ι := [0]) hS53 eF53 (by decide +kernel)) (any_sub (lₚ := [(0, 12)]) rfl)) (SA_trans (SA_trans (SA_trans (SA_refl) hA_4 (any_subA rfl)) (SA_glu (ι := [1]) hA18 eA18 (by decide +kernel)) (any_subA (lₚ := []) rfl)) (SA_glu (ι := [0]) hA53 eA53 (by decide +kernel)) (any_subA (lₚ := []) rfl)) (((((show F53 2 0 = F18 2 0 from (eF53 2 0))).trans ((show F18 2 0 = F_4 2 0 from (eF18 2 0))))).trans (pm4_3)) (m4_3) (em4_3) (y53_0_12) (((eF53 0 12).trans ey53_0_12)) (y4_2_1) (((((show F53 2 1 = F18 2 1 from (eF53 2 1))).trans ((show F18 2 1 = F_4 2 1 from (eF18 2 1)))).trans (ey4_2_1))) (show inr (z53) by omega) (show 0 ≤ (z53) ∧ (z53) ≤ 9 by omega) (show 0 ≤ (y4_2_1) ∧ (y4_2_1) ≤ (m4_3) ∧ (m4_3) ≤ 65536 by omega) (show (u2_1) ≤ (y4_2_1) ∧ (y4_2_1) ≤ (u0_7) by omega) (show (z53) = 0 → a1 + 4 ≤ (y53_0_12) ∧ (y53_0_12) ≤ (u0_5) by omega))
        · refine Ew_of (pcₚ := 55) (fun _ => x_aload_n rfl (rk_o (rk_o (l4_0) rfl rfl) rfl rfl)) ?_
          refine Ew_of (pcₚ := 56) (fun _ => x_iconst rfl) ?_
          refine Ew_of (pcₚ := 57) (fun _ => x_iload_n rfl (rk_o (rk_o (l4_2) rfl rfl) rfl rfl)) ?_
          refine Ew_of (pcₚ := 58) (fun _ => x_iconst rfl) ?_
          refine w_iadd rfl ?_
          have r55 : (-2147483648 : Int) ≤ F_4 0 12 ∧ F_4 0 12 ≤ 2147483647 := by have h1 : (-2147483648 : Int) ≤ F18 0 12 ∧ F18 0 12 ≤ 2147483647 := H.krg 0 12 (by decide); rw [show F18 0 12 = F_4 0 12 from ((show F18 0 12 = F_4 0 12 from (eF18 0 12)))] at h1; exact h1
          refine v_inv H (o := 0) rfl rfl rfl rfl rfl rfl (by rfl) (C221 (D := pul [0] D_4) (N := pul [0] N_4) (HW_sub H (VS_of (show vsub V228 V221 [0] = true by decide +kernel))) (F_4 0 12) (((show F18 0 12 = F_4 0 12 from (eF18 0 12)))) (show inr (0) by omega) (show inr ((x4_2 + 4)) by omega) (fun z56 σ56 F56ₚ A56ₚ Hₚ Oₚ hS56 hA56 y56_0_12 ey56_0_12 pz56_0 pz56_1 pz56_2 => ⟨rfl, ?_⟩))
          refine v_back (c := c_4) (s := s_4) H (show vsub V228 V221 [0] = true by decide +kernel) Hₚ Oₚ (fun F56 A56 H Oₚ eF56 eA56 => ?_)
          have O := OUT_trans O Oₚ
          -- Tokens.fail
          have r57 : (-2147483648 : Int) ≤ y56_0_12 ∧ y56_0_12 ≤ 2147483647 := by have h1 : (-2147483648 : Int) ≤ F56 0 12 ∧ F56 0 12 ≤ 2147483647 := H.krg 0 12 (by decide); rw [show F56 0 12 = y56_0_12 from ((eF56 0 12).trans ey56_0_12)] at h1; exact h1
          exact w_ireturn rfl (k (z56) _ _ _ _ _ _ _ H O (SD_trans (SD_refl) hD_4 (any_subA rfl)) (SD_trans (SD_refl) hN_4 (any_subA rfl)) (SF_trans (SF_trans (SF_trans (SF_refl) hS_4 (any_sub rfl)) (SF_glu (ι := [1]) hS18 eF18 (by decide +kernel)) (any_sub (lₚ := []) rfl)) (SF_glu (ι := [0]) hS56 eF56 (by decide +kernel)) (any_sub (lₚ := [(0, 12)]) rfl)) (SA_trans (SA_trans (SA_trans (SA_refl) hA_4 (any_subA rfl)) (SA_glu (ι := [1]) hA18 eA18 (by decide +kernel)) (any_subA (lₚ := []) rfl)) (SA_glu (ι := [0]) hA56 eA56 (by decide +kernel)) (any_subA (lₚ := []) rfl)) (((((show F56 2 0 = F18 2 0 from (eF56 2 0))).trans ((show F18 2 0 = F_4 2 0 from (eF18 2 0))))).trans (pm4_3)) (m4_3) (em4_3) (y56_0_12) (((eF56 0 12).trans ey56_0_12)) (y4_2_1) (((((show F56 2 1 = F18 2 1 from (eF56 2 1))).trans ((show F18 2 1 = F_4 2 1 from (eF18 2 1)))).trans (ey4_2_1))) (show inr (z56) by omega) (show 0 ≤ (z56) ∧ (z56) ≤ 9 by omega) (show 0 ≤ (y4_2_1) ∧ (y4_2_1) ≤ (m4_3) ∧ (m4_3) ≤ 65536 by omega) (show (u2_1) ≤ (y4_2_1) ∧ (y4_2_1) ≤ (u0_7) by omega) (show (z56) = 0 → a1 + 4 ≤ (y56_0_12) ∧ (y56_0_12) ≤ (u0_5) by omega))
      · refine Ew_of (pcₚ := 23) (fun _ => x_aload_n rfl l4_0) ?_
        refine Ew_of (pcₚ := 24) (fun _ => x_iconst rfl) ?_
        refine Ew_of (pcₚ := 25) (fun _ => x_aload_n rfl l4_0) ?_
        refine v_g H (o := 0) (v := I (u0_5)) rfl rfl rfl rfl rfl (congrArg (fun z : Int => I z) (((hS_4 0 5 rfl).trans (eu0_5)) : F_4 0 5 = u0_5)) ?_
        have r58 : (-2147483648 : Int) ≤ F_4 0 12 ∧ F_4 0 12 ≤ 2147483647 := by have h1 : (-2147483648 : Int) ≤ F_4 0 12 ∧ F_4 0 12 ≤ 2147483647 := H.krg 0 12 (by decide); rw [show F_4 0 12 = F_4 0 12 from rfl] at h1; exact h1
        refine v_inv H (o := 0) rfl rfl rfl rfl rfl rfl (by rfl) (C221 (D := pul [0] D_4) (N := pul [0] N_4) (HW_sub H (VS_of (show vsub V228 V221 [0] = true by decide +kernel))) (F_4 0 12) (rfl) (show inr (1) by omega) (show inr (u0_5) by omega) (fun z59 σ59 F59ₚ A59ₚ Hₚ Oₚ hS59 hA59 y59_0_12 ey59_0_12 pz59_0 pz59_1 pz59_2 => ⟨rfl, ?_⟩))
        refine v_back (c := c_4) (s := s_4) H (show vsub V228 V221 [0] = true by decide +kernel) Hₚ Oₚ (fun F59 A59 H Oₚ eF59 eA59 => ?_)
        have O := OUT_trans O Oₚ
        -- Tokens.fail
        have r60 : (-2147483648 : Int) ≤ y59_0_12 ∧ y59_0_12 ≤ 2147483647 := by have h1 : (-2147483648 : Int) ≤ F59 0 12 ∧ F59 0 12 ≤ 2147483647 := H.krg 0 12 (by decide); rw [show F59 0 12 = y59_0_12 from ((eF59 0 12).trans ey59_0_12)] at h1; exact h1
        exact w_ireturn rfl (k (z59) _ _ _ _ _ _ _ H O (SD_trans (SD_refl) hD_4 (any_subA rfl)) (SD_trans (SD_refl) hN_4 (any_subA rfl)) (SF_trans (SF_trans (SF_refl) hS_4 (any_sub rfl)) (SF_glu (ι := [0]) hS59 eF59 (by decide +kernel)) (any_sub (lₚ := [(0, 12)]) rfl)) (SA_trans (SA_trans (SA_refl) hA_4 (any_subA rfl)) (SA_glu (ι := [0]) hA59 eA59 (by decide +kernel)) (any_subA (lₚ := []) rfl)) ((((show F59 2 0 = F_4 2 0 from (eF59 2 0)))).trans (pm4_3)) (m4_3) (em4_3) (y59_0_12) (((eF59 0 12).trans ey59_0_12)) (y4_2_1) ((((show F59 2 1 = F_4 2 1 from (eF59 2 1))).trans (ey4_2_1))) (show inr (z59) by omega) (show 0 ≤ (z59) ∧ (z59) ≤ 9 by omega) (show 0 ≤ (y4_2_1) ∧ (y4_2_1) ≤ (m4_3) ∧ (m4_3) ≤ 65536 by omega) (show (u2_1) ≤ (y4_2_1) ∧ (y4_2_1) ≤ (u0_7) by omega) (show (z59) = 0 → a1 + 4 ≤ (y59_0_12) ∧ (y59_0_12) ≤ (u0_5) by omega))
abbrev V230 : vV := [(0, 11, [(4, 0), (4, 0), (4, 0), (4, 0), (4, 0), (0, 0), (4, 0), (0, 0), (0, 0), (0, 0), (0, 0), (0, 0), (0, 0)]), (1, 0, []), (0, 7, [(4, 0), (0, 0), (1, 0), (0, 0), (0, 0)]), (1, 0, [])]
/-- Tokens.unpackEnd: this, this.in, this.result, this.result.bytes -/
theorem C230 {σE : rS} {D N : Nat → Nat} {F : hF} {A : hA} {d c s : Nat} {Q : wQ} (H : HW V230 σE D N F A) {a1 a2 : Int} (pf1 : F 0 4 = (D 1 : Int)) (pf2 : F 0 6 = (D 2 : Int)) (pf3 : F 2 0 = (D 3 : Int)) (n1 : Int) (en1 : (N 1 : Int) = n1) (n3 : Int) (en3 : (N 3 : Int) = n3) (u0_5 : Int) (eu0_5 : F 0 5 = u0_5) (u0_8 : Int) (eu0_8 : F 0 8 = u0_8) (u0_10 : Int) (eu0_10 : F 0 10 = u0_10) (u0_12 : Int) (eu0_12 : F 0 12 = u0_12) (u2_1 : Int) (eu2_1 : F 2 1 = u2_1) (h0 : inr (a1)) (h1 : inr (a2)) (h2 : 0 ≤ (u0_5) ∧ (u0_5) ≤ (n1) ∧ (n1) ≤ 65536) (h3 : 0 ≤ (a1) ∧ (a1) ≤ (u0_5)) (h4 : 0 ≤ (u2_1) ∧ (u2_1) ≤ (n3) ∧ (n3) ≤ 65536) (h5 : 0 ≤ (u0_10) ∧ (u0_10) ≤ (u2_1)) (h6 : 0 ≤ (a2)) (h7 : andI ((u0_8)) 8 = 0 ∨ (a2) + 8 ≤ (n1)) (k : ∀ (z : Int) (σ : rS) (Fₚ : hF) (Aₚ : hA), HW V230 σ D N Fₚ Aₚ → OUT (V230).length D N σE c s D N σ c s → SF [(0, 12)] F Fₚ → SA [] A Aₚ → ∀ y0_12 : Int, Fₚ 0 12 = y0_12 → (inr (z)) → (0 ≤ (z) ∧ (z) ≤ 11) → ((z) = 0 → (a1) ≤ (y0_12) ∧ (y0_12) ≤ (u0_5)) → Q (some (I z)) σ c s) : Ew 230 (d + 3) 0 (rargs 0 [.ref (D 0), I a1, I a2]) [] σE c s Q := by
  have O := OUT_refl (n := (V230).length) (D := D) (N := N) (σ := σE) (c := c) (s := s)
  have HE := H
  have r1 : (-2147483648 : Int) ≤ u0_5 ∧ u0_5 ≤ 2147483647 := by have h1 : (-2147483648 : Int) ≤ F 0 5 ∧ F 0 5 ≤ 2147483647 := H.krg 0 5 (by decide); rw [show F 0 5 = u0_5 from (eu0_5)] at h1; exact h1
  have r2 : (-2147483648 : Int) ≤ u0_8 ∧ u0_8 ≤ 2147483647 := by have h1 : (-2147483648 : Int) ≤ F 0 8 ∧ F 0 8 ≤ 2147483647 := H.krg 0 8 (by decide); rw [show F 0 8 = u0_8 from (eu0_8)] at h1; exact h1
  have r3 : (-2147483648 : Int) ≤ u0_10 ∧ u0_10 ≤ 2147483647 := by have h1 : (-2147483648 : Int) ≤ F 0 10 ∧ F 0 10 ≤ 2147483647 := H.krg 0 10 (by decide); rw [show F 0 10 = u0_10 from (eu0_10)] at h1; exact h1
  have r4 : (-2147483648 : Int) ≤ u0_12 ∧ u0_12 ≤ 2147483647 := by have h1 : (-2147483648 : Int) ≤ F 0 12 ∧ F 0 12 ≤ 2147483647 := H.krg 0 12 (by decide); rw [show F 0 12 = u0_12 from (eu0_12)] at h1; exact h1
  have r5 : (-2147483648 : Int) ≤ u2_1 ∧ u2_1 ≤ 2147483647 := by have h1 : (-2147483648 : Int) ≤ F 2 1 ∧ F 2 1 ≤ 2147483647 := H.krg 2 1 (by decide); rw [show F 2 1 = u2_1 from (eu2_1)] at h1; exact h1
  have r6 : (0 : Int) ≤ n1 ∧ n1 ≤ 1000000 := by have h1 := H.nle 1 (by decide); have h2 : (N 1 : Int) = n1 := en1; omega
  have r7 : (0 : Int) ≤ n3 ∧ n3 ≤ 1000000 := by have h1 := H.nle 3 (by decide); have h2 : (N 3 : Int) = n3 := en3; omega
  refine Ew_of (pcₚ := 1) (fun _ => x_iload_n rfl rfl) ?_
  refine Ew_of (pcₚ := 2) (fun _ => x_istore_n rfl) ?_
  have hc75 : ∀ (ls : rO) (σ : rS) (F_c75 : hF) (A_c75 : hA) (xc75_3 : Int), rlook ls 0 = some (.ref (D 0)) → rlook ls 2 = some (I (a2)) → rlook ls 3 = some (I (xc75_3)) → HW V230 σ D N F_c75 A_c75 → OUT (V230).length D N σE c s D N σ c s → SF [] F F_c75 → SA [] A A_c75 → (inr (xc75_3)) → ((xc75_3) = (a1) ∨ (xc75_3) = (a1) + 4 ∧ (xc75_3) ≤ (u0_5)) → Ew 230 (d + 3) 75 ls [] σ c s Q := by
   as_aux_lemma =>
    intro  ls σ F_c75 A_c75 xc75_3 lc75_0 lc75_2 lc75_3 H O hS_c75 hA_c75     jc75_0 jc75_1
    refine Ew_of (pcₚ := 76) (fun _ => x_aload_n rfl lc75_0) ?_
    refine v_g H (o := 0) (v := I (u0_8)) rfl rfl rfl rfl rfl (congrArg (fun z : Int => I z) (((hS_c75 0 8 rfl).trans (eu0_8)) : F_c75 0 8 = u0_8)) ?_
    refine Ew_of (pcₚ := 81) (fun _ => x_bipush (z := 8) rfl (by decide)) ?_
    refine w_iandE rfl (show inr (u0_8) by omega) (show inr (8) by omega) (fun z8 gz8 gaz8 gbz8 gez8 => ?_)
    refine w_ifeq (t := 120) rfl rfl (show inr (z8) by omega) (fun b9 => ?_) (fun b9 => ?_)
    · refine Ew_of (pcₚ := 121) (fun _ => x_aload_n rfl lc75_0) ?_
      refine Ew_of (pcₚ := 122) (fun _ => x_iconst rfl) ?_
      refine Ew_of (pcₚ := 123) (fun _ => x_iload_n rfl lc75_3) ?_
      refine v_inv H (o := 0) rfl rfl rfl rfl rfl rfl (by rfl) (C221 (D := pul [0] D) (N := pul [0] N) (HW_sub H (VS_of (show vsub V230 V221 [0] = true by decide +kernel))) (u0_12) (((hS_c75 0 12 rfl).trans (eu0_12))) (show inr (0) by omega) (show inr (xc75_3) by omega) (fun z10 σ10 F10ₚ A10ₚ Hₚ Oₚ hS10 hA10 y10_0_12 ey10_0_12 pz10_0 pz10_1 pz10_2 => ⟨rfl, ?_⟩))
      refine v_back (c := c) (s := s) H (show vsub V230 V221 [0] = true by decide +kernel) Hₚ Oₚ (fun F10 A10 H Oₚ eF10 eA10 => ?_)
      have O := OUT_trans O Oₚ
      -- Tokens.fail
      have r11 : (-2147483648 : Int) ≤ y10_0_12 ∧ y10_0_12 ≤ 2147483647 := by have h1 : (-2147483648 : Int) ≤ F10 0 12 ∧ F10 0 12 ≤ 2147483647 := H.krg 0 12 (by decide); rw [show F10 0 12 = y10_0_12 from ((eF10 0 12).trans ey10_0_12)] at h1; exact h1
      exact w_ireturn rfl (k (z10) _ _ _ H O (SF_trans (SF_trans (SF_refl) hS_c75 (any_sub rfl)) (SF_glu (ι := [0]) hS10 eF10 (by decide +kernel)) (any_sub (lₚ := [(0, 12)]) rfl)) (SA_trans (SA_trans (SA_refl) hA_c75 (any_subA rfl)) (SA_glu (ι := [0]) hA10 eA10 (by decide +kernel)) (any_subA (lₚ := []) rfl)) (y10_0_12) (((eF10 0 12).trans ey10_0_12)) (show inr (z10) by omega) (show 0 ≤ (z10) ∧ (z10) ≤ 11 by omega) (show (z10) = 0 → a1 ≤ (y10_0_12) ∧ (y10_0_12) ≤ (u0_5) by omega))
    · refine Ew_of (pcₚ := 86) (fun _ => x_aload_n rfl lc75_0) ?_
      refine v_g H (o := 0) (v := .ref (D 1)) rfl rfl rfl rfl rfl (vrf (((hS_c75 0 4 rfl)).trans (pf1))) ?_
      refine Ew_of (pcₚ := 90) (fun _ => x_iload_n rfl lc75_2) ?_
      refine Ew_of (pcₚ := 92) (fun _ => x_bipush (z := 8) rfl (by decide)) ?_
      refine w_stat25 rfl rfl (by rfl) (C42_Br (D := pul [1] D) (N := pul [1] N) (HW_sub H (VS_of (show vsub V230 V42_Br [1] = true by decide +kernel))) (n1) (en1) (show inr (a2) by omega) (show inr (8) by omega) (show (8) ≤ 0 ∨ 0 ≤ (a2) ∧ (a2) + (8) ≤ (n1) by omega) (show 0 ≤ (8) by omega) (fun z12 σ12 F12ₚ A12ₚ Hₚ Oₚ hS12 hA12 pz12_0 pz12_1 => ⟨rfl, ?_⟩))
      refine v_back (c := c) (s := s) H (show vsub V230 V42_Br [1] = true by decide +kernel) Hₚ Oₚ (fun F12 A12 H Oₚ eF12 eA12 => ?_)
      have O := OUT_trans O Oₚ
      -- PackHouse.number
      refine Ew_of (pcₚ := 96) (fun _ => x_aload_n rfl lc75_0) ?_
      refine v_g H (o := 0) (v := .ref (D 2)) rfl rfl rfl rfl rfl (vrf (((((show F12 0 6 = F_c75 0 6 from (eF12 0 6))).trans (hS_c75 0 6 rfl))).trans (pf2))) ?_
      refine v_g H (o := 2) (v := I (u2_1)) rfl rfl rfl rfl rfl (congrArg (fun z : Int => I z) (((((show F12 2 1 = F_c75 2 1 from (eF12 2 1))).trans (hS_c75 2 1 rfl)).trans (eu2_1)) : F12 2 1 = u2_1)) ?_
      refine Ew_of (pcₚ := 103) (fun _ => x_aload_n rfl lc75_0) ?_
      refine v_g H (o := 0) (v := I (u0_10)) rfl rfl rfl rfl rfl (congrArg (fun z : Int => I z) (((((show F12 0 10 = F_c75 0 10 from (eF12 0 10))).trans (hS_c75 0 10 rfl)).trans (eu0_10)) : F12 0 10 = u0_10)) ?_
      refine w_isub rfl ?_
      refine w_i2l rfl (show inr ((u2_1 - u0_10)) by omega) ?_
      refine w_lcmp rfl (show inrJ (z12) by omega) (show inrJ ((u2_1 - u0_10)) by omega) (fun z13 gz13 gaz13 gbz13 => ?_)
      refine w_ifeq (t := 120) rfl rfl (show inr (z13) by omega) (fun b14 => ?_) (fun b14 => ?_)
      · refine Ew_of (pcₚ := 121) (fun _ => x_aload_n rfl lc75_0) ?_
        refine Ew_of (pcₚ := 122) (fun _ => x_iconst rfl) ?_
        refine Ew_of (pcₚ := 123) (fun _ => x_iload_n rfl lc75_3) ?_
        refine v_inv H (o := 0) rfl rfl rfl rfl rfl rfl (by rfl) (C221 (D := pul [0] D) (N := pul [0] N) (HW_sub H (VS_of (show vsub V230 V221 [0] = true by decide +kernel))) (u0_12) (((((show F12 0 12 = F_c75 0 12 from (eF12 0 12))).trans (hS_c75 0 12 rfl)).trans (eu0_12))) (show inr (0) by omega) (show inr (xc75_3) by omega) (fun z15 σ15 F15ₚ A15ₚ Hₚ Oₚ hS15 hA15 y15_0_12 ey15_0_12 pz15_0 pz15_1 pz15_2 => ⟨rfl, ?_⟩))
        refine v_back (c := c) (s := s) H (show vsub V230 V221 [0] = true by decide +kernel) Hₚ Oₚ (fun F15 A15 H Oₚ eF15 eA15 => ?_)
        have O := OUT_trans O Oₚ
        -- Tokens.fail
        have r16 : (-2147483648 : Int) ≤ y15_0_12 ∧ y15_0_12 ≤ 2147483647 := by have h1 : (-2147483648 : Int) ≤ F15 0 12 ∧ F15 0 12 ≤ 2147483647 := H.krg 0 12 (by decide); rw [show F15 0 12 = y15_0_12 from ((eF15 0 12).trans ey15_0_12)] at h1; exact h1
        exact w_ireturn rfl (k (z15) _ _ _ H O (SF_trans (SF_trans (SF_trans (SF_refl) hS_c75 (any_sub rfl)) (SF_glu (ι := [1]) hS12 eF12 (by decide +kernel)) (any_sub (lₚ := []) rfl)) (SF_glu (ι := [0]) hS15 eF15 (by decide +kernel)) (any_sub (lₚ := [(0, 12)]) rfl)) (SA_trans (SA_trans (SA_trans (SA_refl) hA_c75 (any_subA rfl)) (SA_glu (ι := [1]) hA12 eA12 (by decide +kernel)) (any_subA (lₚ := []) rfl)) (SA_glu (ι := [0]) hA15 eA15 (by decide +kernel)) (any_subA (lₚ := []) rfl)) (y15_0_12) (((eF15 0 12).trans ey15_0_12)) (show inr (z15) by omega) (show 0 ≤ (z15) ∧ (z15) ≤ 11 by omega) (show (z15) = 0 → a1 ≤ (y15_0_12) ∧ (y15_0_12) ≤ (u0_5) by omega))
      · refine Ew_of (pcₚ := 113) (fun _ => x_aload_n rfl lc75_0) ?_
        refine Ew_of (pcₚ := 115) (fun _ => x_bipush (z := 11) rfl (by decide)) ?_
        refine Ew_of (pcₚ := 116) (fun _ => x_iload_n rfl lc75_2) ?_
        refine v_inv H (o := 0) rfl rfl rfl rfl rfl rfl (by rfl) (C221 (D := pul [0] D) (N := pul [0] N) (HW_sub H (VS_of (show vsub V230 V221 [0] = true by decide +kernel))) (u0_12) (((((show F12 0 12 = F_c75 0 12 from (eF12 0 12))).trans (hS_c75 0 12 rfl)).trans (eu0_12))) (show inr (11) by omega) (show inr (a2) by omega) (fun z17 σ17 F17ₚ A17ₚ Hₚ Oₚ hS17 hA17 y17_0_12 ey17_0_12 pz17_0 pz17_1 pz17_2 => ⟨rfl, ?_⟩))
        refine v_back (c := c) (s := s) H (show vsub V230 V221 [0] = true by decide +kernel) Hₚ Oₚ (fun F17 A17 H Oₚ eF17 eA17 => ?_)
        have O := OUT_trans O Oₚ
        -- Tokens.fail
        have r18 : (-2147483648 : Int) ≤ y17_0_12 ∧ y17_0_12 ≤ 2147483647 := by have h1 : (-2147483648 : Int) ≤ F17 0 12 ∧ F17 0 12 ≤ 2147483647 := H.krg 0 12 (by decide); rw [show F17 0 12 = y17_0_12 from ((eF17 0 12).trans ey17_0_12)] at h1; exact h1
        exact w_ireturn rfl (k (z17) _ _ _ H O (SF_trans (SF_trans (SF_trans (SF_refl) hS_c75 (any_sub rfl)) (SF_glu (ι := [1]) hS12 eF12 (by decide +kernel)) (any_sub (lₚ := []) rfl)) (SF_glu (ι := [0]) hS17 eF17 (by decide +kernel)) (any_sub (lₚ := [(0, 12)]) rfl)) (SA_trans (SA_trans (SA_trans (SA_refl) hA_c75 (any_subA rfl)) (SA_glu (ι := [1]) hA12 eA12 (by decide +kernel)) (any_subA (lₚ := []) rfl)) (SA_glu (ι := [0]) hA17 eA17 (by decide +kernel)) (any_subA (lₚ := []) rfl)) (y17_0_12) (((eF17 0 12).trans ey17_0_12)) (show inr (z17) by omega) (show 0 ≤ (z17) ∧ (z17) ≤ 11 by omega) (show (z17) = 0 → a1 ≤ (y17_0_12) ∧ (y17_0_12) ≤ (u0_5) by omega))
  refine Ew_of (pcₚ := 3) (fun _ => x_aload_n rfl (rk_o (rfl) rfl rfl)) ?_
  refine v_g H (o := 0) (v := I (u0_8)) rfl rfl rfl rfl rfl (congrArg (fun z : Int => I z) ((eu0_8) : F 0 8 = u0_8)) ?_
  refine Ew_of (pcₚ := 7) (fun _ => x_iconst rfl) ?_
  refine w_iand rfl (show inr (u0_8) by omega) (show inr (4) by omega) (fun z19 gz19 gaz19 gbz19 => ?_)
  refine w_ifeq (t := 75) rfl rfl (show inr (z19) by omega) (fun b20 => ?_) (fun b20 => ?_)
  · exact hc75  _ _ _ _ (a1) (rk_o (rfl) rfl rfl) (rk_o (rfl) rfl rfl) (rk_s) H O (SF_refl) (SA_refl)     (show inr (a1) by omega) (show (a1) = (a1) ∨ (a1) = (a1) + 4 ∧ (a1) ≤ (u0_5) by omega)
  · refine Ew_of (pcₚ := 12) (fun _ => x_aload_n rfl (rk_o (rfl) rfl rfl)) ?_
    refine v_g H (o := 0) (v := I (u0_5)) rfl rfl rfl rfl rfl (congrArg (fun z : Int => I z) ((eu0_5) : F 0 5 = u0_5)) ?_
    refine Ew_of (pcₚ := 16) (fun _ => x_iload_n rfl rk_s) ?_
    refine w_isub rfl ?_
    refine Ew_of (pcₚ := 18) (fun _ => x_iconst rfl) ?_
    refine w_icmpge (t := 31) rfl rfl (show inr ((u0_5 - a1)) by omega) (show inr (4) by omega) (fun b21 => ?_) (fun b21 => ?_)
    · refine Ew_of (pcₚ := 32) (fun _ => x_aload_n rfl (rk_o (rfl) rfl rfl)) ?_
      refine v_g H (o := 0) (v := .ref (D 1)) rfl rfl rfl rfl rfl (vrf (pf1)) ?_
      refine Ew_of (pcₚ := 36) (fun _ => x_iload_n rfl rk_s) ?_
      refine w_stat25 rfl rfl (by rfl) (C41_Br (D := pul [1] D) (N := pul [1] N) (HW_sub H (VS_of (show vsub V230 V41_Br [1] = true by decide +kernel))) (n1) (en1) (show inr (a1) by omega) (show 0 ≤ (a1) ∧ (a1) + 4 ≤ (n1) by omega) (fun z22 σ22 F22ₚ A22ₚ Hₚ Oₚ hS22 hA22 pz22_0 => ⟨rfl, ?_⟩))
      refine v_back (c := c) (s := s) H (show vsub V230 V41_Br [1] = true by decide +kernel) Hₚ Oₚ (fun F22 A22 H Oₚ eF22 eA22 => ?_)
      have O := OUT_trans O Oₚ
      -- PackHouse.word
      refine Ew_of (pcₚ := 40) (fun _ => x_aload_n rfl (rk_o (rfl) rfl rfl)) ?_
      refine v_g H (o := 0) (v := .ref (D 2)) rfl rfl rfl rfl rfl (vrf ((((show F22 0 6 = F 0 6 from (eF22 0 6)))).trans (pf2))) ?_
      refine v_g H (o := 2) (v := .ref (D 3)) rfl rfl rfl rfl rfl (vrf ((((show F22 2 0 = F 2 0 from (eF22 2 0)))).trans (pf3))) ?_
      refine Ew_of (pcₚ := 47) (fun _ => x_aload_n rfl (rk_o (rfl) rfl rfl)) ?_
      refine v_g H (o := 0) (v := I (u0_10)) rfl rfl rfl rfl rfl (congrArg (fun z : Int => I z) ((((show F22 0 10 = F 0 10 from (eF22 0 10))).trans (eu0_10)) : F22 0 10 = u0_10)) ?_
      refine Ew_of (pcₚ := 51) (fun _ => x_aload_n rfl (rk_o (rfl) rfl rfl)) ?_
      refine v_g H (o := 0) (v := .ref (D 2)) rfl rfl rfl rfl rfl (vrf ((((show F22 0 6 = F 0 6 from (eF22 0 6)))).trans (pf2))) ?_
      refine v_g H (o := 2) (v := I (u2_1)) rfl rfl rfl rfl rfl (congrArg (fun z : Int => I z) ((((show F22 2 1 = F 2 1 from (eF22 2 1))).trans (eu2_1)) : F22 2 1 = u2_1)) ?_
      refine Ew_of (pcₚ := 58) (fun _ => x_iconst rfl) ?_
      refine w_stat25 rfl rfl (by rfl) (C49_Br (D := pul [3] D) (N := pul [3] N) (HW_sub H (VS_of (show vsub V230 V49_Br [3] = true by decide +kernel))) (n3) (en3) (show inr (u0_10) by omega) (show inr (u2_1) by omega) (show inr (0) by omega) (show 0 ≤ (u0_10) ∧ (u0_10) ≤ (u2_1) ∧ (u2_1) ≤ (n3) by omega) (fun z23 σ23 F23ₚ A23ₚ Hₚ Oₚ hS23 hA23 pz23_0 => ⟨rfl, ?_⟩))
      refine v_back (c := c) (s := s) H (show vsub V230 V49_Br [3] = true by decide +kernel) Hₚ Oₚ (fun F23 A23 H Oₚ eF23 eA23 => ?_)
      have O := OUT_trans O Oₚ
      -- PackHouse.narrowSum
      refine w_icmpeq (t := 72) rfl rfl (show inr (z22) by omega) (show inr (z23) by omega) (fun b24 => ?_) (fun b24 => ?_)
      · refine Ew_of (pcₚ := 75) (fun _ => x_iinc (len := 3) rfl (rk_s)) ?_
        exact hc75  _ _ _ _ ((a1 + 4)) (rk_o (rk_o (rfl) rfl rfl) rfl rfl) (rk_o (rk_o (rfl) rfl rfl) rfl rfl) (rk_s) H O (SF_trans (SF_trans (SF_refl) (SF_glu (ι := [1]) hS22 eF22 (by decide +kernel)) (any_sub (lₚ := []) rfl)) (SF_glu (ι := [3]) hS23 eF23 (by decide +kernel)) (any_sub (lₚ := []) rfl)) (SA_trans (SA_trans (SA_refl) (SA_glu (ι := [1]) hA22 eA22 (by decide +kernel)) (any_subA (lₚ := []) rfl)) (SA_glu (ι := [3]) hA23 eA23 (by decide +kernel)) (any_subA (lₚ := []) rfl))     (show inr ((a1 + 4)) by omega) (show ((a1 + 4)) = (a1) ∨ ((a1 + 4)) = (a1) + 4 ∧ ((a1 + 4)) ≤ (u0_5) by omega)
      · refine Ew_of (pcₚ := 65) (fun _ => x_aload_n rfl (rk_o (rfl) rfl rfl)) ?_
        refine Ew_of (pcₚ := 67) (fun _ => x_bipush (z := 10) rfl (by decide)) ?_
        refine Ew_of (pcₚ := 68) (fun _ => x_iload_n rfl rk_s) ?_
        refine v_inv H (o := 0) rfl rfl rfl rfl rfl rfl (by rfl) (C221 (D := pul [0] D) (N := pul [0] N) (HW_sub H (VS_of (show vsub V230 V221 [0] = true by decide +kernel))) (u0_12) (((((show F23 0 12 = F22 0 12 from (eF23 0 12))).trans ((show F22 0 12 = F 0 12 from (eF22 0 12)))).trans (eu0_12))) (show inr (10) by omega) (show inr (a1) by omega) (fun z25 σ25 F25ₚ A25ₚ Hₚ Oₚ hS25 hA25 y25_0_12 ey25_0_12 pz25_0 pz25_1 pz25_2 => ⟨rfl, ?_⟩))
        refine v_back (c := c) (s := s) H (show vsub V230 V221 [0] = true by decide +kernel) Hₚ Oₚ (fun F25 A25 H Oₚ eF25 eA25 => ?_)
        have O := OUT_trans O Oₚ
        -- Tokens.fail
        have r26 : (-2147483648 : Int) ≤ y25_0_12 ∧ y25_0_12 ≤ 2147483647 := by have h1 : (-2147483648 : Int) ≤ F25 0 12 ∧ F25 0 12 ≤ 2147483647 := H.krg 0 12 (by decide); rw [show F25 0 12 = y25_0_12 from ((eF25 0 12).trans ey25_0_12)] at h1; exact h1
        exact w_ireturn rfl (k (z25) _ _ _ H O (SF_trans (SF_trans (SF_trans (SF_refl) (SF_glu (ι := [1]) hS22 eF22 (by decide +kernel)) (any_sub (lₚ := []) rfl)) (SF_glu (ι := [3]) hS23 eF23 (by decide +kernel)) (any_sub (lₚ := []) rfl)) (SF_glu (ι := [0]) hS25 eF25 (by decide +kernel)) (any_sub (lₚ := [(0, 12)]) rfl)) (SA_trans (SA_trans (SA_trans (SA_refl) (SA_glu (ι := [1]) hA22 eA22 (by decide +kernel)) (any_subA (lₚ := []) rfl)) (SA_glu (ι := [3]) hA23 eA23 (by decide +kernel)) (any_subA (lₚ := []) rfl)) (SA_glu (ι := [0]) hA25 eA25 (by decide +kernel)) (any_subA (lₚ := []) rfl)) (y25_0_12) (((eF25 0 12).trans ey25_0_12)) (show inr (z25) by omega) (show 0 ≤ (z25) ∧ (z25) ≤ 11 by omega) (show (z25) = 0 → a1 ≤ (y25_0_12) ∧ (y25_0_12) ≤ (u0_5) by omega))
    · refine Ew_of (pcₚ := 22) (fun _ => x_aload_n rfl (rk_o (rfl) rfl rfl)) ?_
      refine Ew_of (pcₚ := 23) (fun _ => x_iconst rfl) ?_
      refine Ew_of (pcₚ := 24) (fun _ => x_aload_n rfl (rk_o (rfl) rfl rfl)) ?_
      refine v_g H (o := 0) (v := I (u0_5)) rfl rfl rfl rfl rfl (congrArg (fun z : Int => I z) ((eu0_5) : F 0 5 = u0_5)) ?_
      refine v_inv H (o := 0) rfl rfl rfl rfl rfl rfl (by rfl) (C221 (D := pul [0] D) (N := pul [0] N) (HW_sub H (VS_of (show vsub V230 V221 [0] = true by decide +kernel))) (u0_12) ((eu0_12)) (show inr (1) by omega) (show inr (u0_5) by omega) (fun z27 σ27 F27ₚ A27ₚ Hₚ Oₚ hS27 hA27 y27_0_12 ey27_0_12 pz27_0 pz27_1 pz27_2 => ⟨rfl, ?_⟩))
      refine v_back (c := c) (s := s) H (show vsub V230 V221 [0] = true by decide +kernel) Hₚ Oₚ (fun F27 A27 H Oₚ eF27 eA27 => ?_)
      have O := OUT_trans O Oₚ
      -- Tokens.fail
      have r28 : (-2147483648 : Int) ≤ y27_0_12 ∧ y27_0_12 ≤ 2147483647 := by have h1 : (-2147483648 : Int) ≤ F27 0 12 ∧ F27 0 12 ≤ 2147483647 := H.krg 0 12 (by decide); rw [show F27 0 12 = y27_0_12 from ((eF27 0 12).trans ey27_0_12)] at h1; exact h1
      exact w_ireturn rfl (k (z27) _ _ _ H O (SF_trans (SF_refl) (SF_glu (ι := [0]) hS27 eF27 (by decide +kernel)) (any_sub (lₚ := [(0, 12)]) rfl)) (SA_trans (SA_refl) (SA_glu (ι := [0]) hA27 eA27 (by decide +kernel)) (any_subA (lₚ := []) rfl)) (y27_0_12) (((eF27 0 12).trans ey27_0_12)) (show inr (z27) by omega) (show 0 ≤ (z27) ∧ (z27) ≤ 11 by omega) (show (z27) = 0 → a1 ≤ (y27_0_12) ∧ (y27_0_12) ≤ (u0_5) by omega))
abbrev V226_Row_Row : vV := [(0, 11, [(4, 0), (4, 0), (4, 0), (4, 0), (4, 0), (0, 0), (4, 0), (0, 0), (0, 0), (0, 0), (0, 0), (0, 0), (0, 0)]), (0, 7, [(4, 0), (0, 0), (1, 0), (0, 0), (0, 0)]), (0, 7, [(4, 0), (0, 0), (1, 0), (0, 0), (0, 0)]), (1, 0, []), (1, 0, []), (0, 7, [(4, 0), (0, 0), (1, 0), (0, 0), (0, 0)]), (1, 0, [])]
/-- Tokens.unpackFrames: this, #1, #2, #1.bytes, #2.bytes, this.past, this.past.bytes -/
theorem C226_Row_Row {σE : rS} {D N : Nat → Nat} {F : hF} {A : hA} {d c s : Nat} {Q : wQ} (H : HW V226_Row_Row σE D N F A) {a3 : Int} (pf3 : F 1 0 = (D 3 : Int)) (pf4 : F 2 0 = (D 4 : Int)) (pf5 : F 0 1 = (D 5 : Int)) (pf6 : F 5 0 = (D 6 : Int)) (n3 : Int) (en3 : (N 3 : Int) = n3) (n4 : Int) (en4 : (N 4 : Int) = n4) (n6 : Int) (en6 : (N 6 : Int) = n6) (u1_1 : Int) (eu1_1 : F 1 1 = u1_1) (u2_1 : Int) (eu2_1 : F 2 1 = u2_1) (u5_1 : Int) (eu5_1 : F 5 1 = u5_1) (h0 : inr (a3)) (h1 : 0 ≤ (u1_1) ∧ (u1_1) ≤ (n3) ∧ (n3) ≤ 65536) (h2 : 0 ≤ (u2_1) ∧ (u2_1) ≤ (n4) ∧ (n4) ≤ 65536) (h3 : 0 ≤ (u5_1) ∧ (u5_1) ≤ (n6) ∧ (n6) ≤ 65536) (h4 : 0 ≤ (a3) ∧ (a3) ≤ 65536) (h5 : (u2_1) ≤ (a3)) (k : ∀ (z : Int) (σ : rS) (Dₚ Nₚ : Nat → Nat) (Fₚ : hF) (Aₚ : hA) (cₚ sₚ : Nat), HW V226_Row_Row σ Dₚ Nₚ Fₚ Aₚ → OUT (V226_Row_Row).length D N σE c s Dₚ Nₚ σ cₚ sₚ → SD [4] D Dₚ → SD [4] N Nₚ → SF [(0, 4), (0, 5), (0, 6), (0, 7), (0, 8), (0, 9), (0, 10), (0, 11), (0, 12), (2, 0), (2, 1), (2, 2)] F Fₚ → SA [4] A Aₚ → Fₚ 2 0 = (Dₚ 4 : Int) → ∀ m4 : Int, (Nₚ 4 : Int) = m4 → ∀ y2_1 : Int, Fₚ 2 1 = y2_1 → (inr (z)) → (0 ≤ (z) ∧ (z) ≤ 11) → (0 ≤ (y2_1) ∧ (y2_1) ≤ (m4) ∧ (m4) ≤ 65536) → Q (some (I z)) σ cₚ sₚ) : Ew 226 (d + 5) 0 (rargs 0 [.ref (D 0), .ref (D 1), .ref (D 2), I a3]) [] σE c s Q := by
  have O := OUT_refl (n := (V226_Row_Row).length) (D := D) (N := N) (σ := σE) (c := c) (s := s)
  have HE := H
  have r1 : (-2147483648 : Int) ≤ u1_1 ∧ u1_1 ≤ 2147483647 := by have h1 : (-2147483648 : Int) ≤ F 1 1 ∧ F 1 1 ≤ 2147483647 := H.krg 1 1 (by decide); rw [show F 1 1 = u1_1 from (eu1_1)] at h1; exact h1
  have r2 : (-2147483648 : Int) ≤ u2_1 ∧ u2_1 ≤ 2147483647 := by have h1 : (-2147483648 : Int) ≤ F 2 1 ∧ F 2 1 ≤ 2147483647 := H.krg 2 1 (by decide); rw [show F 2 1 = u2_1 from (eu2_1)] at h1; exact h1
  have r3 : (-2147483648 : Int) ≤ u5_1 ∧ u5_1 ≤ 2147483647 := by have h1 : (-2147483648 : Int) ≤ F 5 1 ∧ F 5 1 ≤ 2147483647 := H.krg 5 1 (by decide); rw [show F 5 1 = u5_1 from (eu5_1)] at h1; exact h1
  have r4 : (0 : Int) ≤ n3 ∧ n3 ≤ 1000000 := by have h1 := H.nle 3 (by decide); have h2 : (N 3 : Int) = n3 := en3; omega
  have r5 : (0 : Int) ≤ n4 ∧ n4 ≤ 1000000 := by have h1 := H.nle 4 (by decide); have h2 : (N 4 : Int) = n4 := en4; omega
  have r6 : (0 : Int) ≤ n6 ∧ n6 ≤ 1000000 := by have h1 := H.nle 6 (by decide); have h2 : (N 6 : Int) = n6 := en6; omega
  refine Ew_of (pcₚ := 1) (fun _ => x_aload_n rfl rfl) ?_
  refine Ew_of (pcₚ := 2) (fun _ => x_aload_n rfl rfl) ?_
  refine Ew_of (pcₚ := 3) (fun _ => x_aload_n rfl rfl) ?_
  refine Ew_of (pcₚ := 4) (fun _ => x_iload_n rfl rfl) ?_
  have r7 : (-2147483648 : Int) ≤ F 0 5 ∧ F 0 5 ≤ 2147483647 := by have h1 : (-2147483648 : Int) ≤ F 0 5 ∧ F 0 5 ≤ 2147483647 := H.krg 0 5 (by decide); rw [show F 0 5 = F 0 5 from rfl] at h1; exact h1
  have r8 : (-2147483648 : Int) ≤ F 0 7 ∧ F 0 7 ≤ 2147483647 := by have h1 : (-2147483648 : Int) ≤ F 0 7 ∧ F 0 7 ≤ 2147483647 := H.krg 0 7 (by decide); rw [show F 0 7 = F 0 7 from rfl] at h1; exact h1
  have r9 : (-2147483648 : Int) ≤ F 0 12 ∧ F 0 12 ≤ 2147483647 := by have h1 : (-2147483648 : Int) ≤ F 0 12 ∧ F 0 12 ≤ 2147483647 := H.krg 0 12 (by decide); rw [show F 0 12 = F 0 12 from rfl] at h1; exact h1
  refine v_inv H (o := 0) rfl rfl rfl rfl rfl rfl (by rfl) (C222_Row_Row (D := pul [0, 1, 2, 3] D) (N := pul [0, 1, 2, 3] N) (HW_sub H (VS_of (show vsub V226_Row_Row V222_Row_Row [0, 1, 2, 3] = true by decide +kernel))) (pf3) (n3) (en3) (F 0 5) (rfl) (F 0 7) (rfl) (F 0 12) (rfl) (u1_1) ((eu1_1)) (show inr (a3) by omega) (fun σ10 F10ₚ A10ₚ Hₚ Oₚ hS10 hA10 y10_0_5 ey10_0_5 y10_0_7 ey10_0_7 y10_0_12 ey10_0_12 pq10_0 pq10_1 pz10_0 => ⟨rfl, ?_⟩))
  refine v_back (c := c) (s := s) H (show vsub V226_Row_Row V222_Row_Row [0, 1, 2, 3] = true by decide +kernel) Hₚ Oₚ (fun F10 A10 H Oₚ eF10 eA10 => ?_)
  have O := OUT_trans O Oₚ
  -- Tokens.begin
  have pl10_0 : F10 0 4 = (D 3 : Int) := (eF10 0 4).trans (pq10_0)
  have pl10_1 : F10 0 6 = (D 2 : Int) := (eF10 0 6).trans (pq10_1)
  have r11 : (-2147483648 : Int) ≤ y10_0_5 ∧ y10_0_5 ≤ 2147483647 := by have h1 : (-2147483648 : Int) ≤ F10 0 5 ∧ F10 0 5 ≤ 2147483647 := H.krg 0 5 (by decide); rw [show F10 0 5 = y10_0_5 from ((eF10 0 5).trans ey10_0_5)] at h1; exact h1
  have r12 : (-2147483648 : Int) ≤ y10_0_7 ∧ y10_0_7 ≤ 2147483647 := by have h1 : (-2147483648 : Int) ≤ F10 0 7 ∧ F10 0 7 ≤ 2147483647 := H.krg 0 7 (by decide); rw [show F10 0 7 = y10_0_7 from ((eF10 0 7).trans ey10_0_7)] at h1; exact h1
  have r13 : (-2147483648 : Int) ≤ y10_0_12 ∧ y10_0_12 ≤ 2147483647 := by have h1 : (-2147483648 : Int) ≤ F10 0 12 ∧ F10 0 12 ≤ 2147483647 := H.krg 0 12 (by decide); rw [show F10 0 12 = y10_0_12 from ((eF10 0 12).trans ey10_0_12)] at h1; exact h1
  refine Ew_of (pcₚ := 8) (fun _ => x_iconst rfl) ?_
  refine Ew_of (pcₚ := 10) (fun _ => x_istore rfl) ?_
  refine Ew_of (pcₚ := 11) (fun _ => x_iconst rfl) ?_
  refine Ew_of (pcₚ := 13) (fun _ => x_istore rfl) ?_
  suffices hl13 : ∀ (m : Nat), ∀ (ls : rO) (σ : rS) (D_13 N_13 : Nat → Nat) (c_13 s_13 : Nat) (F_13 : hF) (A_13 : hA) (x13_4 : Int) (x13_5 : Int), rlook ls 0 = some (.ref (D_13 0)) → rlook ls 4 = some (I (x13_4)) → rlook ls 5 = some (I (x13_5)) → HW V226_Row_Row σ D_13 N_13 F_13 A_13 → OUT (V226_Row_Row).length D N σE c s D_13 N_13 σ c_13 s_13 → SD [4] D D_13 → SD [4] N N_13 → SF [(0, 8), (0, 9), (0, 10), (0, 11), (0, 12), (2, 0), (2, 1), (2, 2)] F10 F_13 → SA [4] A10 A_13 → F_13 2 0 = (D_13 4 : Int) → ∀ m13_4 : Int, (N_13 4 : Int) = m13_4 → ∀ y13_2_1 : Int, F_13 2 1 = y13_2_1 → (inr (x13_4)) → (inr (x13_5)) → ((0) ≤ (x13_5)) → ((x13_5) ≤ (0) ∨ (x13_5) ≤ ((y10_0_5))) → (0 ≤ (x13_4) ∧ (x13_4) ≤ (y10_0_5)) → (0 ≤ (y13_2_1) ∧ (y13_2_1) ≤ (m13_4) ∧ (m13_4) ≤ 65536) → ((y13_2_1) ≤ (a3)) → (0 ≤ (y10_0_5) ∧ (y10_0_5) ≤ (n3)) → (((y10_0_5)) - (x13_5)).toNat = m → Ew 226 (d + 5) 13 ls [] σ c_13 s_13 Q from
    hl13 _ _ _ _ _ _ _ _ _ (0) (0) (rk_o (rk_o (rfl) rfl rfl) rfl rfl) (rk_o (rk_s) rfl rfl) (rk_s) H O (SD_refl) (SD_refl) (SF_refl) (SA_refl) ((((show F10 2 0 = F 2 0 from (eF10 2 0).trans (hS10 2 0 rfl)))).trans (pf4)) (n4) (en4) (u2_1) ((((show F10 2 1 = F 2 1 from (eF10 2 1).trans (hS10 2 1 rfl))).trans (eu2_1)))  (show inr (0) by omega) (show inr (0) by omega) (show (0) ≤ (0) by omega) (show (0) ≤ (0) ∨ (0) ≤ ((y10_0_5)) by omega) (show 0 ≤ (0) ∧ (0) ≤ (y10_0_5) by omega) (show 0 ≤ (u2_1) ∧ (u2_1) ≤ (n4) ∧ (n4) ≤ 65536 by omega) (show (u2_1) ≤ (a3) by omega) (show 0 ≤ (y10_0_5) ∧ (y10_0_5) ≤ (n3) by omega) rfl
  as_aux_lemma =>
  intro m
  induction m using Nat.strongRecOn with
  | _ m ih13 =>
    intro ls σ D_13 N_13 c_13 s_13 F_13 A_13 x13_4 x13_5 l13_0 l13_4 l13_5 H O hD_13 hN_13 hS_13 hA_13 pm13_4 m13_4 em13_4 y13_2_1 ey13_2_1  j13_0 j13_1 j13_2 j13_3 j13_4 j13_5 j13_6 j13_7 hm13
    have pf_13_0_1 : F_13 0 1 = (D_13 5 : Int) := (hS_13 0 1 rfl).trans (((((show F10 0 1 = F 0 1 from (eF10 0 1).trans (hS10 0 1 rfl)))).trans (pf5)).trans (congrArg (fun q : Nat => (q : Int)) (hD_13 5 rfl).symm))
    have pf_13_0_4 : F_13 0 4 = (D_13 3 : Int) := (hS_13 0 4 rfl).trans ((pl10_0).trans (congrArg (fun q : Nat => (q : Int)) (hD_13 3 rfl).symm))
    have pf_13_0_6 : F_13 0 6 = (D_13 2 : Int) := (hS_13 0 6 rfl).trans ((pl10_1).trans (congrArg (fun q : Nat => (q : Int)) (hD_13 2 rfl).symm))
    have pf_13_1_0 : F_13 1 0 = (D_13 3 : Int) := (hS_13 1 0 rfl).trans (((((show F10 1 0 = F 1 0 from (eF10 1 0).trans (hS10 1 0 rfl)))).trans (pf3)).trans (congrArg (fun q : Nat => (q : Int)) (hD_13 3 rfl).symm))
    have pf_13_5_0 : F_13 5 0 = (D_13 6 : Int) := (hS_13 5 0 rfl).trans (((((show F10 5 0 = F 5 0 from (eF10 5 0)))).trans (pf6)).trans (congrArg (fun q : Nat => (q : Int)) (hD_13 6 rfl).symm))
    have r14 : (0 : Int) ≤ m13_4 ∧ m13_4 ≤ 1000000 := by have h1 := H.nle 4 (by decide); have h2 : (N_13 4 : Int) = m13_4 := em13_4; omega
    have r15 : (-2147483648 : Int) ≤ y13_2_1 ∧ y13_2_1 ≤ 2147483647 := by have h1 : (-2147483648 : Int) ≤ F_13 2 1 ∧ F_13 2 1 ≤ 2147483647 := H.krg 2 1 (by decide); rw [show F_13 2 1 = y13_2_1 from (ey13_2_1)] at h1; exact h1
    refine Ew_of (pcₚ := 15) (fun _ => x_iload rfl l13_5) ?_
    refine Ew_of (pcₚ := 16) (fun _ => x_aload_n rfl l13_0) ?_
    refine v_g H (o := 0) (v := I (y10_0_5)) rfl rfl rfl rfl rfl (congrArg (fun z : Int => I z) (((hS_13 0 5 rfl).trans ((eF10 0 5).trans ey10_0_5)) : F_13 0 5 = y10_0_5)) ?_
    have hc171 : ∀ (ls : rO) (σ : rS) (F_c171 : hF) (A_c171 : hA) , rlook ls 0 = some (.ref (D_13 0)) → HW V226_Row_Row σ D_13 N_13 F_c171 A_c171 → OUT (V226_Row_Row).length D N σE c s D_13 N_13 σ c_13 s_13 → SF [] F_13 F_c171 → SA [] A_13 A_c171 → (((x13_5) ≥ (y10_0_5)) ∨ ((x13_5) < (y10_0_5) ∧ (x13_4) ≥ (y10_0_5))) → Ew 226 (d + 5) 171 ls [] σ c_13 s_13 Q := by
     as_aux_lemma =>
      intro  ls σ F_c171 A_c171  lc171_0 H O hS_c171 hA_c171     jc171_0
      refine Ew_of (pcₚ := 172) (fun _ => x_aload_n rfl lc171_0) ?_
      refine Ew_of (pcₚ := 173) (fun _ => x_iconst rfl) ?_
      refine Ew_of (pcₚ := 174) (fun _ => x_aload_n rfl lc171_0) ?_
      refine v_g H (o := 0) (v := I (y10_0_5)) rfl rfl rfl rfl rfl (congrArg (fun z : Int => I z) ((((hS_c171 0 5 rfl).trans (hS_13 0 5 rfl)).trans ((eF10 0 5).trans ey10_0_5)) : F_c171 0 5 = y10_0_5)) ?_
      have r16 : (-2147483648 : Int) ≤ F_13 0 12 ∧ F_13 0 12 ≤ 2147483647 := by have h1 : (-2147483648 : Int) ≤ F_c171 0 12 ∧ F_c171 0 12 ≤ 2147483647 := H.krg 0 12 (by decide); rw [show F_c171 0 12 = F_13 0 12 from (hS_c171 0 12 rfl)] at h1; exact h1
      refine v_inv H (o := 0) rfl rfl rfl rfl rfl rfl (by rfl) (C221 (D := pul [0] D_13) (N := pul [0] N_13) (HW_sub H (VS_of (show vsub V226_Row_Row V221 [0] = true by decide +kernel))) (F_13 0 12) ((hS_c171 0 12 rfl)) (show inr (0) by omega) (show inr (y10_0_5) by omega) (fun z17 σ17 F17ₚ A17ₚ Hₚ Oₚ hS17 hA17 y17_0_12 ey17_0_12 pz17_0 pz17_1 pz17_2 => ⟨rfl, ?_⟩))
      refine v_back (c := c_13) (s := s_13) H (show vsub V226_Row_Row V221 [0] = true by decide +kernel) Hₚ Oₚ (fun F17 A17 H Oₚ eF17 eA17 => ?_)
      have O := OUT_trans O Oₚ
      -- Tokens.fail
      have r18 : (-2147483648 : Int) ≤ y17_0_12 ∧ y17_0_12 ≤ 2147483647 := by have h1 : (-2147483648 : Int) ≤ F17 0 12 ∧ F17 0 12 ≤ 2147483647 := H.krg 0 12 (by decide); rw [show F17 0 12 = y17_0_12 from ((eF17 0 12).trans ey17_0_12)] at h1; exact h1
      exact w_ireturn rfl (k (z17) _ _ _ _ _ _ _ H O (SD_trans (SD_refl) hD_13 (any_subA rfl)) (SD_trans (SD_refl) hN_13 (any_subA rfl)) (SF_trans (SF_trans (SF_trans (SF_trans (SF_refl) (SF_glu (ι := [0, 1, 2, 3]) hS10 eF10 (by decide +kernel)) (any_sub (lₚ := [(0, 4), (0, 5), (0, 6), (0, 7), (0, 12)]) rfl)) hS_13 (any_sub rfl)) hS_c171 (any_sub rfl)) (SF_glu (ι := [0]) hS17 eF17 (by decide +kernel)) (any_sub (lₚ := [(0, 12)]) rfl)) (SA_trans (SA_trans (SA_trans (SA_trans (SA_refl) (SA_glu (ι := [0, 1, 2, 3]) hA10 eA10 (by decide +kernel)) (any_subA (lₚ := []) rfl)) hA_13 (any_subA rfl)) hA_c171 (any_subA rfl)) (SA_glu (ι := [0]) hA17 eA17 (by decide +kernel)) (any_subA (lₚ := []) rfl)) (((((show F17 2 0 = F_c171 2 0 from (eF17 2 0))).trans (hS_c171 2 0 rfl))).trans (pm13_4)) (m13_4) (em13_4) (y13_2_1) (((((show F17 2 1 = F_c171 2 1 from (eF17 2 1))).trans (hS_c171 2 1 rfl)).trans (ey13_2_1))) (show inr (z17) by omega) (show 0 ≤ (z17) ∧ (z17) ≤ 11 by omega) (show 0 ≤ (y13_2_1) ∧ (y13_2_1) ≤ (m13_4) ∧ (m13_4) ≤ 65536 by omega))
    refine w_icmpge (t := 171) rfl rfl (show inr (x13_5) by omega) (show inr (y10_0_5) by omega) (fun b19 => ?_) (fun b19 => ?_)
    · exact hc171  _ _ _ _  (l13_0) H O (SF_refl) (SA_refl)     (show ((x13_5) ≥ (y10_0_5)) ∨ ((x13_5) < (y10_0_5) ∧ (x13_4) ≥ (y10_0_5)) by omega)
    · refine Ew_of (pcₚ := 24) (fun _ => x_iload rfl l13_4) ?_
      refine Ew_of (pcₚ := 25) (fun _ => x_aload_n rfl l13_0) ?_
      refine v_g H (o := 0) (v := I (y10_0_5)) rfl rfl rfl rfl rfl (congrArg (fun z : Int => I z) (((hS_13 0 5 rfl).trans ((eF10 0 5).trans ey10_0_5)) : F_13 0 5 = y10_0_5)) ?_
      refine w_icmpge (t := 171) rfl rfl (show inr (x13_4) by omega) (show inr (y10_0_5) by omega) (fun b20 => ?_) (fun b20 => ?_)
      · exact hc171  _ _ _ _  (l13_0) H O (SF_refl) (SA_refl)     (show ((x13_5) ≥ (y10_0_5)) ∨ ((x13_5) < (y10_0_5) ∧ (x13_4) ≥ (y10_0_5)) by omega)
      · refine Ew_of (pcₚ := 32) (fun _ => x_aload_n rfl l13_0) ?_
        refine v_g H (o := 0) (v := I (y10_0_5)) rfl rfl rfl rfl rfl (congrArg (fun z : Int => I z) (((hS_13 0 5 rfl).trans ((eF10 0 5).trans ey10_0_5)) : F_13 0 5 = y10_0_5)) ?_
        refine Ew_of (pcₚ := 37) (fun _ => x_iload rfl l13_4) ?_
        refine w_isub rfl ?_
        refine Ew_of (pcₚ := 39) (fun _ => x_iconst rfl) ?_
        refine w_icmpge (t := 52) rfl rfl (show inr ((y10_0_5 - x13_4)) by omega) (show inr (4) by omega) (fun b21 => ?_) (fun b21 => ?_)
        · refine Ew_of (pcₚ := 53) (fun _ => x_aload_n rfl l13_0) ?_
          refine v_g H (o := 0) (v := .ref (D_13 3)) rfl rfl rfl rfl rfl (vrf (pf_13_0_4)) ?_
          refine Ew_of (pcₚ := 58) (fun _ => x_iload rfl l13_4) ?_
          refine Ew_of (pcₚ := 59) (fun _ => x_aload_n rfl l13_0) ?_
          refine v_g H (o := 0) (v := I (y10_0_5)) rfl rfl rfl rfl rfl (congrArg (fun z : Int => I z) (((hS_13 0 5 rfl).trans ((eF10 0 5).trans ey10_0_5)) : F_13 0 5 = y10_0_5)) ?_
          refine w_stat25 rfl rfl (by rfl) (C43_Br (D := pul [3] D_13) (N := pul [3] N_13) (HW_sub H (VS_of (show vsub V226_Row_Row V43_Br [3] = true by decide +kernel))) (n3) ((congrArg (fun q : Nat => (q : Int)) (hN_13 3 rfl)).trans (en3)) (show inr (x13_4) by omega) (show inr (y10_0_5) by omega) (show 0 ≤ (x13_4) ∧ 0 ≤ (y10_0_5) ∧ (y10_0_5) ≤ (n3) ∧ (n3) ≤ 65536 ∧ (x13_4) ≤ 200000 by omega) (fun z22 σ22 F22ₚ A22ₚ Hₚ Oₚ hS22 hA22 pz22_0 pz22_1 => ⟨rretB rfl pz22_0, ?_⟩))
          refine v_back (c := c_13) (s := s_13) H (show vsub V226_Row_Row V43_Br [3] = true by decide +kernel) Hₚ Oₚ (fun F22 A22 H Oₚ eF22 eA22 => ?_)
          have O := OUT_trans O Oₚ
          -- PackHouse.isSpare
          refine w_ifeq (t := 98) rfl rfl (show inr (z22) by omega) (fun b23 => ?_) (fun b23 => ?_)
          · refine Ew_of (pcₚ := 99) (fun _ => x_aload_n rfl l13_0) ?_
            refine Ew_of (pcₚ := 101) (fun _ => x_iload rfl l13_4) ?_
            have r24 : (-2147483648 : Int) ≤ F_13 0 8 ∧ F_13 0 8 ≤ 2147483647 := by have h1 : (-2147483648 : Int) ≤ F22 0 8 ∧ F22 0 8 ≤ 2147483647 := H.krg 0 8 (by decide); rw [show F22 0 8 = F_13 0 8 from ((show F22 0 8 = F_13 0 8 from (eF22 0 8)))] at h1; exact h1
            have r25 : (-2147483648 : Int) ≤ F_13 0 9 ∧ F_13 0 9 ≤ 2147483647 := by have h1 : (-2147483648 : Int) ≤ F22 0 9 ∧ F22 0 9 ≤ 2147483647 := H.krg 0 9 (by decide); rw [show F22 0 9 = F_13 0 9 from ((show F22 0 9 = F_13 0 9 from (eF22 0 9)))] at h1; exact h1
            have r26 : (-2147483648 : Int) ≤ F_13 0 10 ∧ F_13 0 10 ≤ 2147483647 := by have h1 : (-2147483648 : Int) ≤ F22 0 10 ∧ F22 0 10 ≤ 2147483647 := H.krg 0 10 (by decide); rw [show F22 0 10 = F_13 0 10 from ((show F22 0 10 = F_13 0 10 from (eF22 0 10)))] at h1; exact h1
            have r27 : (-2147483648 : Int) ≤ F_13 0 12 ∧ F_13 0 12 ≤ 2147483647 := by have h1 : (-2147483648 : Int) ≤ F22 0 12 ∧ F22 0 12 ≤ 2147483647 := H.krg 0 12 (by decide); rw [show F22 0 12 = F_13 0 12 from ((show F22 0 12 = F_13 0 12 from (eF22 0 12)))] at h1; exact h1
            refine v_inv H (o := 0) rfl rfl rfl rfl rfl rfl (by rfl) (C227 (D := pul [0, 3, 2, 4] D_13) (N := pul [0, 3, 2, 4] N_13) (HW_sub H (VS_of (show vsub V226_Row_Row V227 [0, 3, 2, 4] = true by decide +kernel))) ((((show F22 0 4 = F_13 0 4 from (eF22 0 4)))).trans (pf_13_0_4)) ((((show F22 0 6 = F_13 0 6 from (eF22 0 6)))).trans (pf_13_0_6)) ((((show F22 2 0 = F_13 2 0 from (eF22 2 0)))).trans (pm13_4)) (n3) ((congrArg (fun q : Nat => (q : Int)) (hN_13 3 rfl)).trans (en3)) (m13_4) (em13_4) (y10_0_5) (((((show F22 0 5 = F_13 0 5 from (eF22 0 5))).trans (hS_13 0 5 rfl)).trans ((eF10 0 5).trans ey10_0_5))) (F_13 0 8) (((show F22 0 8 = F_13 0 8 from (eF22 0 8)))) (F_13 0 9) (((show F22 0 9 = F_13 0 9 from (eF22 0 9)))) (F_13 0 10) (((show F22 0 10 = F_13 0 10 from (eF22 0 10)))) (F_13 0 12) (((show F22 0 12 = F_13 0 12 from (eF22 0 12)))) (y13_2_1) ((((show F22 2 1 = F_13 2 1 from (eF22 2 1))).trans (ey13_2_1))) (show inr (x13_4) by omega) (show 0 ≤ (y10_0_5) ∧ (y10_0_5) ≤ (n3) ∧ (n3) ≤ 65536 by omega) (show 0 ≤ (x13_4) ∧ (x13_4) + 4 ≤ (y10_0_5) by omega) (show 0 ≤ (y13_2_1) ∧ (y13_2_1) ≤ (m13_4) ∧ (m13_4) ≤ 65536 by omega) (fun z28 σ28 F28ₚ A28ₚ Hₚ Oₚ hS28 hA28 y28_0_8 ey28_0_8 y28_0_9 ey28_0_9 y28_0_10 ey28_0_10 y28_0_12 ey28_0_12 pz28_0 pz28_1 pz28_2 pz28_3 => ⟨rfl, ?_⟩))
            refine v_back (c := c_13) (s := s_13) H (show vsub V226_Row_Row V227 [0, 3, 2, 4] = true by decide +kernel) Hₚ Oₚ (fun F28 A28 H Oₚ eF28 eA28 => ?_)
            have O := OUT_trans O Oₚ
            -- Tokens.unpackHead
            have r29 : (-2147483648 : Int) ≤ y28_0_8 ∧ y28_0_8 ≤ 2147483647 := by have h1 : (-2147483648 : Int) ≤ F28 0 8 ∧ F28 0 8 ≤ 2147483647 := H.krg 0 8 (by decide); rw [show F28 0 8 = y28_0_8 from ((eF28 0 8).trans ey28_0_8)] at h1; exact h1
            have r30 : (-2147483648 : Int) ≤ y28_0_9 ∧ y28_0_9 ≤ 2147483647 := by have h1 : (-2147483648 : Int) ≤ F28 0 9 ∧ F28 0 9 ≤ 2147483647 := H.krg 0 9 (by decide); rw [show F28 0 9 = y28_0_9 from ((eF28 0 9).trans ey28_0_9)] at h1; exact h1
            have r31 : (-2147483648 : Int) ≤ y28_0_10 ∧ y28_0_10 ≤ 2147483647 := by have h1 : (-2147483648 : Int) ≤ F28 0 10 ∧ F28 0 10 ≤ 2147483647 := H.krg 0 10 (by decide); rw [show F28 0 10 = y28_0_10 from ((eF28 0 10).trans ey28_0_10)] at h1; exact h1
            have r32 : (-2147483648 : Int) ≤ y28_0_12 ∧ y28_0_12 ≤ 2147483647 := by have h1 : (-2147483648 : Int) ≤ F28 0 12 ∧ F28 0 12 ≤ 2147483647 := H.krg 0 12 (by decide); rw [show F28 0 12 = y28_0_12 from ((eF28 0 12).trans ey28_0_12)] at h1; exact h1
            refine Ew_of (pcₚ := 106) (fun _ => x_istore rfl) ?_
            have hc124 : ∀ (tc124_0 : Int), ∀ (ls : rO) (σ : rS) (D_c124 N_c124 : Nat → Nat) (c_c124 s_c124 : Nat) (F_c124 : hF) (A_c124 : hA) , rlook ls 0 = some (.ref (D_c124 0)) → rlook ls 4 = some (I (x13_4)) → rlook ls 5 = some (I (x13_5)) → HW V226_Row_Row σ D_c124 N_c124 F_c124 A_c124 → OUT (V226_Row_Row).length D N σE c s D_c124 N_c124 σ c_c124 s_c124 → SD [4] D_13 D_c124 → SD [4] N_13 N_c124 → SF [(0, 11), (0, 12), (2, 0), (2, 1), (2, 2)] F28 F_c124 → SA [4] A28 A_c124 → F_c124 2 0 = (D_c124 4 : Int) → ∀ mc124_4 : Int, (N_c124 4 : Int) = mc124_4 → ∀ yc124_0_12 : Int, F_c124 0 12 = yc124_0_12 → ∀ yc124_2_1 : Int, F_c124 2 1 = yc124_2_1 → (inr (tc124_0)) → (0 ≤ (tc124_0) ∧ (tc124_0) ≤ 9) → (0 ≤ (yc124_2_1) ∧ (yc124_2_1) ≤ (mc124_4) ∧ (mc124_4) ≤ 65536) → ((yc124_2_1) ≤ (a3)) → (0 ≤ (y10_0_5) ∧ (y10_0_5) ≤ (n3)) → ((tc124_0) = 0 → (x13_4) + 4 ≤ (yc124_0_12) ∧ (yc124_0_12) ≤ (y10_0_5) ∧ 0 ≤ (y28_0_10) ∧ (y28_0_10) ≤ (yc124_2_1)) → ((tc124_0) = 0 → andI ((y28_0_8)) 8 = 0 ∨ (x13_4) + 14 ≤ (y10_0_5)) → Ew 226 (d + 5) 124 ls [I (tc124_0)] σ c_c124 s_c124 Q := by
             as_aux_lemma =>
              intro tc124_0 ls σ D_c124 N_c124 c_c124 s_c124 F_c124 A_c124  lc124_0 lc124_4 lc124_5 H O hD_c124 hN_c124 hS_c124 hA_c124 pmc124_4 mc124_4 emc124_4 yc124_0_12 eyc124_0_12 yc124_2_1 eyc124_2_1  jc124_0 jc124_1 jc124_2 jc124_3 jc124_4 jc124_5 jc124_6
              have pf_c124_0_1 : F_c124 0 1 = (D_c124 5 : Int) := (hS_c124 0 1 rfl).trans ((((((show F28 0 1 = F22 0 1 from (eF28 0 1).trans (hS28 0 1 rfl))).trans ((show F22 0 1 = F_13 0 1 from (eF22 0 1))))).trans (pf_13_0_1)).trans (congrArg (fun q : Nat => (q : Int)) (hD_c124 5 rfl).symm))
              have pf_c124_0_4 : F_c124 0 4 = (D_c124 3 : Int) := (hS_c124 0 4 rfl).trans ((((((show F28 0 4 = F22 0 4 from (eF28 0 4).trans (hS28 0 4 rfl))).trans ((show F22 0 4 = F_13 0 4 from (eF22 0 4))))).trans (pf_13_0_4)).trans (congrArg (fun q : Nat => (q : Int)) (hD_c124 3 rfl).symm))
              have pf_c124_0_6 : F_c124 0 6 = (D_c124 2 : Int) := (hS_c124 0 6 rfl).trans ((((((show F28 0 6 = F22 0 6 from (eF28 0 6).trans (hS28 0 6 rfl))).trans ((show F22 0 6 = F_13 0 6 from (eF22 0 6))))).trans (pf_13_0_6)).trans (congrArg (fun q : Nat => (q : Int)) (hD_c124 2 rfl).symm))
              have pf_c124_1_0 : F_c124 1 0 = (D_c124 3 : Int) := (hS_c124 1 0 rfl).trans ((((((show F28 1 0 = F22 1 0 from (eF28 1 0))).trans ((show F22 1 0 = F_13 1 0 from (eF22 1 0))))).trans (pf_13_1_0)).trans (congrArg (fun q : Nat => (q : Int)) (hD_c124 3 rfl).symm))
              have pf_c124_5_0 : F_c124 5 0 = (D_c124 6 : Int) := (hS_c124 5 0 rfl).trans ((((((show F28 5 0 = F22 5 0 from (eF28 5 0))).trans ((show F22 5 0 = F_13 5 0 from (eF22 5 0))))).trans (pf_13_5_0)).trans (congrArg (fun q : Nat => (q : Int)) (hD_c124 6 rfl).symm))
              have r33 : (0 : Int) ≤ mc124_4 ∧ mc124_4 ≤ 1000000 := by have h1 := H.nle 4 (by decide); have h2 : (N_c124 4 : Int) = mc124_4 := emc124_4; omega
              have r34 : (-2147483648 : Int) ≤ yc124_0_12 ∧ yc124_0_12 ≤ 2147483647 := by have h1 : (-2147483648 : Int) ≤ F_c124 0 12 ∧ F_c124 0 12 ≤ 2147483647 := H.krg 0 12 (by decide); rw [show F_c124 0 12 = yc124_0_12 from (eyc124_0_12)] at h1; exact h1
              have r35 : (-2147483648 : Int) ≤ yc124_2_1 ∧ yc124_2_1 ≤ 2147483647 := by have h1 : (-2147483648 : Int) ≤ F_c124 2 1 ∧ F_c124 2 1 ≤ 2147483647 := H.krg 2 1 (by decide); rw [show F_c124 2 1 = yc124_2_1 from (eyc124_2_1)] at h1; exact h1
              refine Ew_of (pcₚ := 126) (fun _ => x_istore rfl) ?_
              have hc149 : ∀ (tc149_0 : Int), ∀ (ls : rO) (σ : rS) (F_c149 : hF) (A_c149 : hA) , rlook ls 0 = some (.ref (D_c124 0)) → rlook ls 5 = some (I (x13_5)) → HW V226_Row_Row σ D_c124 N_c124 F_c149 A_c149 → OUT (V226_Row_Row).length D N σE c s D_c124 N_c124 σ c_c124 s_c124 → SF [(0, 12)] F_c124 F_c149 → SA [] A_c124 A_c149 → ∀ yc149_0_12 : Int, F_c149 0 12 = yc149_0_12 → (inr (tc149_0)) → (0 ≤ (tc149_0) ∧ (tc149_0) ≤ 11) → (0 ≤ (yc124_2_1) ∧ (yc124_2_1) ≤ (mc124_4) ∧ (mc124_4) ≤ 65536) → ((yc124_2_1) ≤ (a3)) → (0 ≤ (y10_0_5) ∧ (y10_0_5) ≤ (n3)) → ((tc149_0) = 0 → (x13_4) + 4 ≤ (yc149_0_12) ∧ (yc149_0_12) ≤ (y10_0_5)) → Ew 226 (d + 5) 149 ls [I (tc149_0)] σ c_c124 s_c124 Q := by
               as_aux_lemma =>
                intro tc149_0 ls σ F_c149 A_c149  lc149_0 lc149_5 H O hS_c149 hA_c149   yc149_0_12 eyc149_0_12  jc149_0 jc149_1 jc149_2 jc149_3 jc149_4 jc149_5
                have r36 : (-2147483648 : Int) ≤ yc149_0_12 ∧ yc149_0_12 ≤ 2147483647 := by have h1 : (-2147483648 : Int) ≤ F_c149 0 12 ∧ F_c149 0 12 ≤ 2147483647 := H.krg 0 12 (by decide); rw [show F_c149 0 12 = yc149_0_12 from (eyc149_0_12)] at h1; exact h1
                refine Ew_of (pcₚ := 151) (fun _ => x_istore rfl) ?_
                refine Ew_of (pcₚ := 153) (fun _ => x_iload rfl rk_s) ?_
                refine w_ifeq (t := 159) rfl rfl (show inr (tc149_0) by omega) (fun b37 => ?_) (fun b37 => ?_)
                · refine Ew_of (pcₚ := 160) (fun _ => x_aload_n rfl (rk_o (lc149_0) rfl rfl)) ?_
                  refine v_g H (o := 0) (v := I (yc149_0_12)) rfl rfl rfl rfl rfl (congrArg (fun z : Int => I z) ((eyc149_0_12) : F_c149 0 12 = yc149_0_12)) ?_
                  refine Ew_of (pcₚ := 165) (fun _ => x_istore rfl) ?_
                  refine Ew_of (pcₚ := 168) (fun _ => x_iinc (len := 3) rfl (rk_o (rk_o (lc149_5) rfl rfl) rfl rfl)) ?_
                  refine Ew_of (pcₚ := 13) (fun _ => x_goto rfl rfl) ?_
                  exact ih13 _ (by omega) _ _ _ _ _ _ _ _ (yc149_0_12) ((x13_5 + 1)) (rk_o (rk_o (rk_o (lc149_0) rfl rfl) rfl rfl) rfl rfl) (rk_o (rk_s) rfl rfl) (rk_s) H O (SD_trans (hD_13) hD_c124 (any_subA rfl)) (SD_trans (hN_13) hN_c124 (any_subA rfl)) (SF_trans (SF_trans (SF_trans (SF_trans (hS_13) (SF_glu (ι := [3]) hS22 eF22 (by decide +kernel)) (any_sub (lₚ := []) rfl)) (SF_glu (ι := [0, 3, 2, 4]) hS28 eF28 (by decide +kernel)) (any_sub (lₚ := [(0, 8), (0, 9), (0, 10), (0, 12)]) rfl)) hS_c124 (any_sub rfl)) hS_c149 (any_sub rfl)) (SA_trans (SA_trans (SA_trans (SA_trans (hA_13) (SA_glu (ι := [3]) hA22 eA22 (by decide +kernel)) (any_subA (lₚ := []) rfl)) (SA_glu (ι := [0, 3, 2, 4]) hA28 eA28 (by decide +kernel)) (any_subA (lₚ := []) rfl)) hA_c124 (any_subA rfl)) hA_c149 (any_subA rfl)) (((hS_c149 2 0 rfl)).trans (pmc124_4)) (mc124_4) (emc124_4) (yc124_2_1) (((hS_c149 2 1 rfl).trans (eyc124_2_1)))  (show inr (yc149_0_12) by omega) (show inr ((x13_5 + 1)) by omega) (show (0) ≤ ((x13_5 + 1)) by omega) (show ((x13_5 + 1)) ≤ (0) ∨ ((x13_5 + 1)) ≤ ((y10_0_5)) by omega) (show 0 ≤ (yc149_0_12) ∧ (yc149_0_12) ≤ (y10_0_5) by omega) (show 0 ≤ (yc124_2_1) ∧ (yc124_2_1) ≤ (mc124_4) ∧ (mc124_4) ≤ 65536 by omega) (show (yc124_2_1) ≤ (a3) by omega) (show 0 ≤ (y10_0_5) ∧ (y10_0_5) ≤ (n3) by omega) rfl
                · refine Ew_of (pcₚ := 158) (fun _ => x_iload rfl rk_s) ?_
                  exact w_ireturn rfl (k (tc149_0) _ _ _ _ _ _ _ H O (SD_trans (SD_trans (SD_refl) hD_13 (any_subA rfl)) hD_c124 (any_subA rfl)) (SD_trans (SD_trans (SD_refl) hN_13 (any_subA rfl)) hN_c124 (any_subA rfl)) (SF_trans (SF_trans (SF_trans (SF_trans (SF_trans (SF_trans (SF_refl) (SF_glu (ι := [0, 1, 2, 3]) hS10 eF10 (by decide +kernel)) (any_sub (lₚ := [(0, 4), (0, 5), (0, 6), (0, 7), (0, 12)]) rfl)) hS_13 (any_sub rfl)) (SF_glu (ι := [3]) hS22 eF22 (by decide +kernel)) (any_sub (lₚ := []) rfl)) (SF_glu (ι := [0, 3, 2, 4]) hS28 eF28 (by decide +kernel)) (any_sub (lₚ := [(0, 8), (0, 9), (0, 10), (0, 12)]) rfl)) hS_c124 (any_sub rfl)) hS_c149 (any_sub rfl)) (SA_trans (SA_trans (SA_trans (SA_trans (SA_trans (SA_trans (SA_refl) (SA_glu (ι := [0, 1, 2, 3]) hA10 eA10 (by decide +kernel)) (any_subA (lₚ := []) rfl)) hA_13 (any_subA rfl)) (SA_glu (ι := [3]) hA22 eA22 (by decide +kernel)) (any_subA (lₚ := []) rfl)) (SA_glu (ι := [0, 3, 2, 4]) hA28 eA28 (by decide +kernel)) (any_subA (lₚ := []) rfl)) hA_c124 (any_subA rfl)) hA_c149 (any_subA rfl)) (((hS_c149 2 0 rfl)).trans (pmc124_4)) (mc124_4) (emc124_4) (yc124_2_1) (((hS_c149 2 1 rfl).trans (eyc124_2_1))) (show inr (tc149_0) by omega) (show 0 ≤ (tc149_0) ∧ (tc149_0) ≤ 11 by omega) (show 0 ≤ (yc124_2_1) ∧ (yc124_2_1) ≤ (mc124_4) ∧ (mc124_4) ≤ 65536 by omega))
              refine Ew_of (pcₚ := 128) (fun _ => x_iload rfl rk_s) ?_
              refine w_ifeq (t := 136) rfl rfl (show inr (tc124_0) by omega) (fun b38 => ?_) (fun b38 => ?_)
              · refine Ew_of (pcₚ := 137) (fun _ => x_aload_n rfl (rk_o (lc124_0) rfl rfl)) ?_
                refine Ew_of (pcₚ := 138) (fun _ => x_aload_n rfl (rk_o (lc124_0) rfl rfl)) ?_
                refine v_g H (o := 0) (v := I (yc124_0_12)) rfl rfl rfl rfl rfl (congrArg (fun z : Int => I z) ((eyc124_0_12) : F_c124 0 12 = yc124_0_12)) ?_
                refine Ew_of (pcₚ := 143) (fun _ => x_iload rfl (rk_o (lc124_4) rfl rfl)) ?_
                refine Ew_of (pcₚ := 145) (fun _ => x_bipush (z := 6) rfl (by decide)) ?_
                refine w_iadd rfl ?_
                refine v_inv H (o := 0) rfl rfl rfl rfl rfl rfl (by rfl) (C230 (D := pul [0, 3, 2, 4] D_c124) (N := pul [0, 3, 2, 4] N_c124) (HW_sub H (VS_of (show vsub V226_Row_Row V230 [0, 3, 2, 4] = true by decide +kernel))) (pf_c124_0_4) (pf_c124_0_6) (pmc124_4) (n3) ((congrArg (fun q : Nat => (q : Int)) (hN_c124 3 rfl)).trans ((congrArg (fun q : Nat => (q : Int)) (hN_13 3 rfl)).trans (en3))) (mc124_4) (emc124_4) (y10_0_5) ((((((hS_c124 0 5 rfl).trans ((show F28 0 5 = F22 0 5 from (eF28 0 5).trans (hS28 0 5 rfl)))).trans ((show F22 0 5 = F_13 0 5 from (eF22 0 5)))).trans (hS_13 0 5 rfl)).trans ((eF10 0 5).trans ey10_0_5))) (y28_0_8) (((hS_c124 0 8 rfl).trans ((eF28 0 8).trans ey28_0_8))) (y28_0_10) (((hS_c124 0 10 rfl).trans ((eF28 0 10).trans ey28_0_10))) (yc124_0_12) ((eyc124_0_12)) (yc124_2_1) ((eyc124_2_1)) (show inr (yc124_0_12) by omega) (show inr ((x13_4 + 6)) by omega) (show 0 ≤ (y10_0_5) ∧ (y10_0_5) ≤ (n3) ∧ (n3) ≤ 65536 by omega) (show 0 ≤ (yc124_0_12) ∧ (yc124_0_12) ≤ (y10_0_5) by omega) (show 0 ≤ (yc124_2_1) ∧ (yc124_2_1) ≤ (mc124_4) ∧ (mc124_4) ≤ 65536 by omega) (show 0 ≤ (y28_0_10) ∧ (y28_0_10) ≤ (yc124_2_1) by omega) (show 0 ≤ ((x13_4 + 6)) by omega) (show andI ((y28_0_8)) 8 = 0 ∨ ((x13_4 + 6)) + 8 ≤ (n3) by omega) (fun z39 σ39 F39ₚ A39ₚ Hₚ Oₚ hS39 hA39 y39_0_12 ey39_0_12 pz39_0 pz39_1 pz39_2 => ⟨rfl, ?_⟩))
                refine v_back (c := c_c124) (s := s_c124) H (show vsub V226_Row_Row V230 [0, 3, 2, 4] = true by decide +kernel) Hₚ Oₚ (fun F39 A39 H Oₚ eF39 eA39 => ?_)
                have O := OUT_trans O Oₚ
                -- Tokens.unpackEnd
                have r40 : (-2147483648 : Int) ≤ y39_0_12 ∧ y39_0_12 ≤ 2147483647 := by have h1 : (-2147483648 : Int) ≤ F39 0 12 ∧ F39 0 12 ≤ 2147483647 := H.krg 0 12 (by decide); rw [show F39 0 12 = y39_0_12 from ((eF39 0 12).trans ey39_0_12)] at h1; exact h1
                exact hc149 (z39) _ _ _ _  (rk_o (lc124_0) rfl rfl) (rk_o (lc124_5) rfl rfl) H O (SF_trans (SF_refl) (SF_glu (ι := [0, 3, 2, 4]) hS39 eF39 (by decide +kernel)) (any_sub (lₚ := [(0, 12)]) rfl)) (SA_trans (SA_refl) (SA_glu (ι := [0, 3, 2, 4]) hA39 eA39 (by decide +kernel)) (any_subA (lₚ := []) rfl))   (y39_0_12) (((eF39 0 12).trans ey39_0_12))  (show inr (z39) by omega) (show 0 ≤ (z39) ∧ (z39) ≤ 11 by omega) (show 0 ≤ (yc124_2_1) ∧ (yc124_2_1) ≤ (mc124_4) ∧ (mc124_4) ≤ 65536 by omega) (show (yc124_2_1) ≤ (a3) by omega) (show 0 ≤ (y10_0_5) ∧ (y10_0_5) ≤ (n3) by omega) (show (z39) = 0 → (x13_4) + 4 ≤ (y39_0_12) ∧ (y39_0_12) ≤ (y10_0_5) by omega)
              · refine Ew_of (pcₚ := 133) (fun _ => x_iload rfl rk_s) ?_
                refine Ew_of (pcₚ := 149) (fun _ => x_goto rfl rfl) ?_
                exact hc149 (tc124_0) _ _ _ _  (rk_o (lc124_0) rfl rfl) (rk_o (lc124_5) rfl rfl) H O (SF_refl) (SA_refl)   (yc124_0_12) ((eyc124_0_12))  (show inr (tc124_0) by omega) (show 0 ≤ (tc124_0) ∧ (tc124_0) ≤ 11 by omega) (show 0 ≤ (yc124_2_1) ∧ (yc124_2_1) ≤ (mc124_4) ∧ (mc124_4) ≤ 65536 by omega) (show (yc124_2_1) ≤ (a3) by omega) (show 0 ≤ (y10_0_5) ∧ (y10_0_5) ≤ (n3) by omega) (show (tc124_0) = 0 → (x13_4) + 4 ≤ (yc124_0_12) ∧ (yc124_0_12) ≤ (y10_0_5) by omega)
            refine Ew_of (pcₚ := 108) (fun _ => x_iload rfl rk_s) ?_
            refine w_ifeq (t := 116) rfl rfl (show inr (z28) by omega) (fun b41 => ?_) (fun b41 => ?_)
            · refine Ew_of (pcₚ := 117) (fun _ => x_aload_n rfl (rk_o (l13_0) rfl rfl)) ?_
              refine Ew_of (pcₚ := 118) (fun _ => x_aload_n rfl (rk_o (l13_0) rfl rfl)) ?_
              refine v_g H (o := 0) (v := I (y28_0_12)) rfl rfl rfl rfl rfl (congrArg (fun z : Int => I z) (((eF28 0 12).trans ey28_0_12) : F28 0 12 = y28_0_12)) ?_
              refine v_inv H (o := 0) rfl rfl rfl rfl rfl rfl (by rfl) (C228 (D := pul [0, 3, 2, 4, 5, 6] D_13) (N := pul [0, 3, 2, 4, 5, 6] N_13) (HW_sub H (VS_of (show vsub V226_Row_Row V228 [0, 3, 2, 4, 5, 6] = true by decide +kernel))) (((((show F28 0 4 = F22 0 4 from (eF28 0 4).trans (hS28 0 4 rfl))).trans ((show F22 0 4 = F_13 0 4 from (eF22 0 4))))).trans (pf_13_0_4)) (((((show F28 0 6 = F22 0 6 from (eF28 0 6).trans (hS28 0 6 rfl))).trans ((show F22 0 6 = F_13 0 6 from (eF22 0 6))))).trans (pf_13_0_6)) (((((show F28 2 0 = F22 2 0 from (eF28 2 0).trans (hS28 2 0 rfl))).trans ((show F22 2 0 = F_13 2 0 from (eF22 2 0))))).trans (pm13_4)) (((((show F28 0 1 = F22 0 1 from (eF28 0 1).trans (hS28 0 1 rfl))).trans ((show F22 0 1 = F_13 0 1 from (eF22 0 1))))).trans (pf_13_0_1)) (((((show F28 5 0 = F22 5 0 from (eF28 5 0))).trans ((show F22 5 0 = F_13 5 0 from (eF22 5 0))))).trans (pf_13_5_0)) (n3) ((congrArg (fun q : Nat => (q : Int)) (hN_13 3 rfl)).trans (en3)) (m13_4) (em13_4) (n6) ((congrArg (fun q : Nat => (q : Int)) (hN_13 6 rfl)).trans (en6)) (y10_0_5) ((((((show F28 0 5 = F22 0 5 from (eF28 0 5).trans (hS28 0 5 rfl))).trans ((show F22 0 5 = F_13 0 5 from (eF22 0 5)))).trans (hS_13 0 5 rfl)).trans ((eF10 0 5).trans ey10_0_5))) (y10_0_7) ((((((show F28 0 7 = F22 0 7 from (eF28 0 7).trans (hS28 0 7 rfl))).trans ((show F22 0 7 = F_13 0 7 from (eF22 0 7)))).trans (hS_13 0 7 rfl)).trans ((eF10 0 7).trans ey10_0_7))) (y28_0_9) (((eF28 0 9).trans ey28_0_9)) (y28_0_10) (((eF28 0 10).trans ey28_0_10)) (y28_0_12) (((eF28 0 12).trans ey28_0_12)) (y13_2_1) (((((show F28 2 1 = F22 2 1 from (eF28 2 1).trans (hS28 2 1 rfl))).trans ((show F22 2 1 = F_13 2 1 from (eF22 2 1)))).trans (ey13_2_1))) (u5_1) (((((((show F28 5 1 = F22 5 1 from (eF28 5 1))).trans ((show F22 5 1 = F_13 5 1 from (eF22 5 1)))).trans (hS_13 5 1 rfl)).trans ((show F10 5 1 = F 5 1 from (eF10 5 1)))).trans (eu5_1))) (show inr (y28_0_12) by omega) (show 0 ≤ (y10_0_5) ∧ (y10_0_5) ≤ (n3) ∧ (n3) ≤ 65536 by omega) (show 0 ≤ (y28_0_12) ∧ (y28_0_12) ≤ (y10_0_5) by omega) (show 0 ≤ (y13_2_1) ∧ (y13_2_1) ≤ (m13_4) ∧ (m13_4) ≤ 65536 by omega) (show 0 ≤ (u5_1) ∧ (u5_1) ≤ (n6) ∧ (n6) ≤ 65536 by omega) (show 0 ≤ (y10_0_7) ∧ (y10_0_7) ≤ 65536 ∧ (y13_2_1) ≤ (y10_0_7) by omega) (show 0 ≤ (y28_0_10) ∧ (y28_0_10) ≤ (y13_2_1) by omega) (show 0 ≤ (y28_0_9) ∧ (y28_0_9) ≤ 4194304 by omega) (fun z42 σ42 D42ₚ N42ₚ F42ₚ A42ₚ c42 s42 Hₚ Oₚ hD42 hN42 hS42 hA42 pm42_3 m42_3 em42_3 y42_0_12 ey42_0_12 y42_2_1 ey42_2_1 pz42_0 pz42_1 pz42_2 pz42_3 pz42_4 => ⟨rfl, ?_⟩))
              refine v_backM (c := c_13) (s := s_13) H (show vsub V226_Row_Row V228 [0, 3, 2, 4, 5, 6] = true by decide +kernel) Hₚ Oₚ hD42 (show vmov V226_Row_Row [0, 3, 2, 4, 5, 6] [3] = true by decide +kernel) (fun D42 N42 F42 A42 H Oₚ eD42 eN42 eF42 eA42 => ?_)
              have O := OUT_trans O Oₚ
              -- Tokens.unpackBlocks
              have pf42_0_1 : F42 0 1 = (D42 5 : Int) := ((show F42 0 1 = F28 0 1 from (eF42 0 1).trans (hS42 0 1 rfl))).trans ((((((show F28 0 1 = F22 0 1 from (eF28 0 1).trans (hS28 0 1 rfl))).trans ((show F22 0 1 = F_13 0 1 from (eF22 0 1))))).trans (pf_13_0_1)).trans (congrArg (fun q : Nat => (q : Int)) ((show D42 5 = D_13 5 from (eD42 5).trans (hD42 4 rfl))).symm))
              have pf42_0_4 : F42 0 4 = (D42 3 : Int) := ((show F42 0 4 = F28 0 4 from (eF42 0 4).trans (hS42 0 4 rfl))).trans ((((((show F28 0 4 = F22 0 4 from (eF28 0 4).trans (hS28 0 4 rfl))).trans ((show F22 0 4 = F_13 0 4 from (eF22 0 4))))).trans (pf_13_0_4)).trans (congrArg (fun q : Nat => (q : Int)) ((show D42 3 = D_13 3 from (eD42 3).trans (hD42 1 rfl))).symm))
              have pf42_0_6 : F42 0 6 = (D42 2 : Int) := ((show F42 0 6 = F28 0 6 from (eF42 0 6).trans (hS42 0 6 rfl))).trans ((((((show F28 0 6 = F22 0 6 from (eF28 0 6).trans (hS28 0 6 rfl))).trans ((show F22 0 6 = F_13 0 6 from (eF22 0 6))))).trans (pf_13_0_6)).trans (congrArg (fun q : Nat => (q : Int)) ((show D42 2 = D_13 2 from (eD42 2).trans (hD42 2 rfl))).symm))
              have pf42_1_0 : F42 1 0 = (D42 3 : Int) := ((show F42 1 0 = F28 1 0 from (eF42 1 0))).trans ((((((show F28 1 0 = F22 1 0 from (eF28 1 0))).trans ((show F22 1 0 = F_13 1 0 from (eF22 1 0))))).trans (pf_13_1_0)).trans (congrArg (fun q : Nat => (q : Int)) ((show D42 3 = D_13 3 from (eD42 3).trans (hD42 1 rfl))).symm))
              have pf42_2_0 : F42 2 0 = (D42 4 : Int) := (eF42 2 0).trans (pm42_3.trans (congrArg (fun q : Nat => (q : Int)) (eD42 4).symm))
              have pf42_5_0 : F42 5 0 = (D42 6 : Int) := ((show F42 5 0 = F28 5 0 from (eF42 5 0).trans (hS42 4 0 rfl))).trans ((((((show F28 5 0 = F22 5 0 from (eF28 5 0))).trans ((show F22 5 0 = F_13 5 0 from (eF22 5 0))))).trans (pf_13_5_0)).trans (congrArg (fun q : Nat => (q : Int)) ((show D42 6 = D_13 6 from (eD42 6).trans (hD42 5 rfl))).symm))
              have r43 : (0 : Int) ≤ m42_3 ∧ m42_3 ≤ 1000000 := by have h1 := H.nle 4 (by decide); have h2 : (N42 4 : Int) = m42_3 := (congrArg (fun q : Nat => (q : Int)) (eN42 4)).trans em42_3; omega
              have r44 : (-2147483648 : Int) ≤ y42_0_12 ∧ y42_0_12 ≤ 2147483647 := by have h1 : (-2147483648 : Int) ≤ F42 0 12 ∧ F42 0 12 ≤ 2147483647 := H.krg 0 12 (by decide); rw [show F42 0 12 = y42_0_12 from ((eF42 0 12).trans ey42_0_12)] at h1; exact h1
              have r45 : (-2147483648 : Int) ≤ y42_2_1 ∧ y42_2_1 ≤ 2147483647 := by have h1 : (-2147483648 : Int) ≤ F42 2 1 ∧ F42 2 1 ≤ 2147483647 := H.krg 2 1 (by decide); rw [show F42 2 1 = y42_2_1 from ((eF42 2 1).trans ey42_2_1)] at h1; exact h1
              exact hc124 (z42) _ _ _ _ _ _ _ _  ((rk_o (l13_0) rfl rfl).trans (congrArg (fun q : Nat => some (Value.ref q)) (((show D42 0 = D_13 0 from (eD42 0).trans (hD42 0 rfl)))).symm)) (rk_o (l13_4) rfl rfl) (rk_o (l13_5) rfl rfl) H O (SD_trans (SD_refl) (SD_glu (ι := [0, 3, 2, 4, 5, 6]) hD42 eD42 (by decide +kernel)) (any_subA (lₚ := [4]) rfl)) (SD_trans (SD_refl) (SD_glu (ι := [0, 3, 2, 4, 5, 6]) hN42 eN42 (by decide +kernel)) (any_subA (lₚ := [4]) rfl)) (SF_trans (SF_refl) (SF_glu (ι := [0, 3, 2, 4, 5, 6]) hS42 eF42 (by decide +kernel)) (any_sub (lₚ := [(0, 11), (0, 12), (2, 0), (2, 1), (2, 2)]) rfl)) (SA_trans (SA_refl) (SA_glu (ι := [0, 3, 2, 4, 5, 6]) hA42 eA42 (by decide +kernel)) (any_subA (lₚ := [4]) rfl)) (pf42_2_0) (m42_3) ((congrArg (fun q : Nat => (q : Int)) (eN42 4)).trans em42_3) (y42_0_12) (((eF42 0 12).trans ey42_0_12)) (y42_2_1) (((eF42 2 1).trans ey42_2_1))  (show inr (z42) by omega) (show 0 ≤ (z42) ∧ (z42) ≤ 9 by omega) (show 0 ≤ (y42_2_1) ∧ (y42_2_1) ≤ (m42_3) ∧ (m42_3) ≤ 65536 by omega) (show (y42_2_1) ≤ (a3) by omega) (show 0 ≤ (y10_0_5) ∧ (y10_0_5) ≤ (n3) by omega) (show (z42) = 0 → (x13_4) + 4 ≤ (y42_0_12) ∧ (y42_0_12) ≤ (y10_0_5) ∧ 0 ≤ (y28_0_10) ∧ (y28_0_10) ≤ (y42_2_1) by omega) (show (z42) = 0 → andI ((y28_0_8)) 8 = 0 ∨ (x13_4) + 14 ≤ (y10_0_5) by omega)
            · refine Ew_of (pcₚ := 113) (fun _ => x_iload rfl rk_s) ?_
              refine Ew_of (pcₚ := 124) (fun _ => x_goto rfl rfl) ?_
              exact hc124 (z28) _ _ _ _ _ _ _ _  (rk_o (l13_0) rfl rfl) (rk_o (l13_4) rfl rfl) (rk_o (l13_5) rfl rfl) H O (SD_refl) (SD_refl) (SF_refl) (SA_refl) (((((show F28 2 0 = F22 2 0 from (eF28 2 0).trans (hS28 2 0 rfl))).trans ((show F22 2 0 = F_13 2 0 from (eF22 2 0))))).trans (pm13_4)) (m13_4) (em13_4) (y28_0_12) (((eF28 0 12).trans ey28_0_12)) (y13_2_1) (((((show F28 2 1 = F22 2 1 from (eF28 2 1).trans (hS28 2 1 rfl))).trans ((show F22 2 1 = F_13 2 1 from (eF22 2 1)))).trans (ey13_2_1)))  (show inr (z28) by omega) (show 0 ≤ (z28) ∧ (z28) ≤ 9 by omega) (show 0 ≤ (y13_2_1) ∧ (y13_2_1) ≤ (m13_4) ∧ (m13_4) ≤ 65536 by omega) (show (y13_2_1) ≤ (a3) by omega) (show 0 ≤ (y10_0_5) ∧ (y10_0_5) ≤ (n3) by omega) (show (z28) = 0 → (x13_4) + 4 ≤ (y28_0_12) ∧ (y28_0_12) ≤ (y10_0_5) ∧ 0 ≤ (y28_0_10) ∧ (y28_0_10) ≤ (y13_2_1) by omega) (show (z28) = 0 → andI ((y28_0_8)) 8 = 0 ∨ (x13_4) + 14 ≤ (y10_0_5) by omega)
          · refine Ew_of (pcₚ := 69) (fun _ => x_aload_n rfl l13_0) ?_
            refine v_g H (o := 0) (v := .ref (D_13 3)) rfl rfl rfl rfl rfl (vrf ((((show F22 0 4 = F_13 0 4 from (eF22 0 4)))).trans (pf_13_0_4))) ?_
            refine Ew_of (pcₚ := 74) (fun _ => x_iload rfl l13_4) ?_
            refine Ew_of (pcₚ := 75) (fun _ => x_aload_n rfl l13_0) ?_
            refine v_g H (o := 0) (v := I (y10_0_5)) rfl rfl rfl rfl rfl (congrArg (fun z : Int => I z) (((((show F22 0 5 = F_13 0 5 from (eF22 0 5))).trans (hS_13 0 5 rfl)).trans ((eF10 0 5).trans ey10_0_5)) : F22 0 5 = y10_0_5)) ?_
            refine w_stat25 rfl rfl (by rfl) (C44_Br (D := pul [3] D_13) (N := pul [3] N_13) (HW_sub H (VS_of (show vsub V226_Row_Row V44_Br [3] = true by decide +kernel))) (n3) ((congrArg (fun q : Nat => (q : Int)) (hN_13 3 rfl)).trans (en3)) (show inr (x13_4) by omega) (show inr (y10_0_5) by omega) (show 0 ≤ (x13_4) ∧ 0 ≤ (y10_0_5) ∧ (y10_0_5) ≤ (n3) ∧ (n3) ≤ 65536 ∧ (x13_4) ≤ 200000 by omega) (fun z46 σ46 F46ₚ A46ₚ Hₚ Oₚ hS46 hA46 pz46_0 pz46_1 => ⟨rfl, ?_⟩))
            refine v_back (c := c_13) (s := s_13) H (show vsub V226_Row_Row V44_Br [3] = true by decide +kernel) Hₚ Oₚ (fun F46 A46 H Oₚ eF46 eA46 => ?_)
            have O := OUT_trans O Oₚ
            -- PackHouse.afterSpare
            refine Ew_of (pcₚ := 83) (fun _ => x_istore rfl) ?_
            refine Ew_of (pcₚ := 85) (fun _ => x_iload rfl rk_s) ?_
            refine w_ifge (t := 165) rfl rfl (show inr (z46) by omega) (fun b47 => ?_) (fun b47 => ?_)
            · refine Ew_of (pcₚ := 168) (fun _ => x_iinc (len := 3) rfl (rk_o (l13_5) rfl rfl)) ?_
              refine Ew_of (pcₚ := 13) (fun _ => x_goto rfl rfl) ?_
              exact ih13 _ (by omega) _ _ _ _ _ _ _ _ (z46) ((x13_5 + 1)) (rk_o (rk_o (l13_0) rfl rfl) rfl rfl) (rk_o (rk_s) rfl rfl) (rk_s) H O (hD_13) (hN_13) (SF_trans (SF_trans (hS_13) (SF_glu (ι := [3]) hS22 eF22 (by decide +kernel)) (any_sub (lₚ := []) rfl)) (SF_glu (ι := [3]) hS46 eF46 (by decide +kernel)) (any_sub (lₚ := []) rfl)) (SA_trans (SA_trans (hA_13) (SA_glu (ι := [3]) hA22 eA22 (by decide +kernel)) (any_subA (lₚ := []) rfl)) (SA_glu (ι := [3]) hA46 eA46 (by decide +kernel)) (any_subA (lₚ := []) rfl)) (((((show F46 2 0 = F22 2 0 from (eF46 2 0))).trans ((show F22 2 0 = F_13 2 0 from (eF22 2 0))))).trans (pm13_4)) (m13_4) (em13_4) (y13_2_1) (((((show F46 2 1 = F22 2 1 from (eF46 2 1))).trans ((show F22 2 1 = F_13 2 1 from (eF22 2 1)))).trans (ey13_2_1)))  (show inr (z46) by omega) (show inr ((x13_5 + 1)) by omega) (show (0) ≤ ((x13_5 + 1)) by omega) (show ((x13_5 + 1)) ≤ (0) ∨ ((x13_5 + 1)) ≤ ((y10_0_5)) by omega) (show 0 ≤ (z46) ∧ (z46) ≤ (y10_0_5) by omega) (show 0 ≤ (y13_2_1) ∧ (y13_2_1) ≤ (m13_4) ∧ (m13_4) ≤ 65536 by omega) (show (y13_2_1) ≤ (a3) by omega) (show 0 ≤ (y10_0_5) ∧ (y10_0_5) ≤ (n3) by omega) rfl
            · refine Ew_of (pcₚ := 89) (fun _ => x_aload_n rfl (rk_o (l13_0) rfl rfl)) ?_
              refine Ew_of (pcₚ := 90) (fun _ => x_iconst rfl) ?_
              refine Ew_of (pcₚ := 91) (fun _ => x_aload_n rfl (rk_o (l13_0) rfl rfl)) ?_
              refine v_g H (o := 0) (v := I (y10_0_5)) rfl rfl rfl rfl rfl (congrArg (fun z : Int => I z) ((((((show F46 0 5 = F22 0 5 from (eF46 0 5))).trans ((show F22 0 5 = F_13 0 5 from (eF22 0 5)))).trans (hS_13 0 5 rfl)).trans ((eF10 0 5).trans ey10_0_5)) : F46 0 5 = y10_0_5)) ?_
              have r48 : (-2147483648 : Int) ≤ F_13 0 12 ∧ F_13 0 12 ≤ 2147483647 := by have h1 : (-2147483648 : Int) ≤ F46 0 12 ∧ F46 0 12 ≤ 2147483647 := H.krg 0 12 (by decide); rw [show F46 0 12 = F_13 0 12 from (((show F46 0 12 = F22 0 12 from (eF46 0 12))).trans ((show F22 0 12 = F_13 0 12 from (eF22 0 12))))] at h1; exact h1
              refine v_inv H (o := 0) rfl rfl rfl rfl rfl rfl (by rfl) (C221 (D := pul [0] D_13) (N := pul [0] N_13) (HW_sub H (VS_of (show vsub V226_Row_Row V221 [0] = true by decide +kernel))) (F_13 0 12) ((((show F46 0 12 = F22 0 12 from (eF46 0 12))).trans ((show F22 0 12 = F_13 0 12 from (eF22 0 12))))) (show inr (1) by omega) (show inr (y10_0_5) by omega) (fun z49 σ49 F49ₚ A49ₚ Hₚ Oₚ hS49 hA49 y49_0_12 ey49_0_12 pz49_0 pz49_1 pz49_2 => ⟨rfl, ?_⟩))
              refine v_back (c := c_13) (s := s_13) H (show vsub V226_Row_Row V221 [0] = true by decide +kernel) Hₚ Oₚ (fun F49 A49 H Oₚ eF49 eA49 => ?_)
              have O := OUT_trans O Oₚ
              -- Tokens.fail
              have r50 : (-2147483648 : Int) ≤ y49_0_12 ∧ y49_0_12 ≤ 2147483647 := by have h1 : (-2147483648 : Int) ≤ F49 0 12 ∧ F49 0 12 ≤ 2147483647 := H.krg 0 12 (by decide); rw [show F49 0 12 = y49_0_12 from ((eF49 0 12).trans ey49_0_12)] at h1; exact h1
              exact w_ireturn rfl (k (z49) _ _ _ _ _ _ _ H O (SD_trans (SD_refl) hD_13 (any_subA rfl)) (SD_trans (SD_refl) hN_13 (any_subA rfl)) (SF_trans (SF_trans (SF_trans (SF_trans (SF_trans (SF_refl) (SF_glu (ι := [0, 1, 2, 3]) hS10 eF10 (by decide +kernel)) (any_sub (lₚ := [(0, 4), (0, 5), (0, 6), (0, 7), (0, 12)]) rfl)) hS_13 (any_sub rfl)) (SF_glu (ι := [3]) hS22 eF22 (by decide +kernel)) (any_sub (lₚ := []) rfl)) (SF_glu (ι := [3]) hS46 eF46 (by decide +kernel)) (any_sub (lₚ := []) rfl)) (SF_glu (ι := [0]) hS49 eF49 (by decide +kernel)) (any_sub (lₚ := [(0, 12)]) rfl)) (SA_trans (SA_trans (SA_trans (SA_trans (SA_trans (SA_refl) (SA_glu (ι := [0, 1, 2, 3]) hA10 eA10 (by decide +kernel)) (any_subA (lₚ := []) rfl)) hA_13 (any_subA rfl)) (SA_glu (ι := [3]) hA22 eA22 (by decide +kernel)) (any_subA (lₚ := []) rfl)) (SA_glu (ι := [3]) hA46 eA46 (by decide +kernel)) (any_subA (lₚ := []) rfl)) (SA_glu (ι := [0]) hA49 eA49 (by decide +kernel)) (any_subA (lₚ := []) rfl)) ((((((show F49 2 0 = F46 2 0 from (eF49 2 0))).trans ((show F46 2 0 = F22 2 0 from (eF46 2 0)))).trans ((show F22 2 0 = F_13 2 0 from (eF22 2 0))))).trans (pm13_4)) (m13_4) (em13_4) (y13_2_1) ((((((show F49 2 1 = F46 2 1 from (eF49 2 1))).trans ((show F46 2 1 = F22 2 1 from (eF46 2 1)))).trans ((show F22 2 1 = F_13 2 1 from (eF22 2 1)))).trans (ey13_2_1))) (show inr (z49) by omega) (show 0 ≤ (z49) ∧ (z49) ≤ 11 by omega) (show 0 ≤ (y13_2_1) ∧ (y13_2_1) ≤ (m13_4) ∧ (m13_4) ≤ 65536 by omega))
        · refine Ew_of (pcₚ := 43) (fun _ => x_aload_n rfl l13_0) ?_
          refine Ew_of (pcₚ := 44) (fun _ => x_iconst rfl) ?_
          refine Ew_of (pcₚ := 45) (fun _ => x_aload_n rfl l13_0) ?_
          refine v_g H (o := 0) (v := I (y10_0_5)) rfl rfl rfl rfl rfl (congrArg (fun z : Int => I z) (((hS_13 0 5 rfl).trans ((eF10 0 5).trans ey10_0_5)) : F_13 0 5 = y10_0_5)) ?_
          have r51 : (-2147483648 : Int) ≤ F_13 0 12 ∧ F_13 0 12 ≤ 2147483647 := by have h1 : (-2147483648 : Int) ≤ F_13 0 12 ∧ F_13 0 12 ≤ 2147483647 := H.krg 0 12 (by decide); rw [show F_13 0 12 = F_13 0 12 from rfl] at h1; exact h1
          refine v_inv H (o := 0) rfl rfl rfl rfl rfl rfl (by rfl) (C221 (D := pul [0] D_13) (N := pul [0] N_13) (HW_sub H (VS_of (show vsub V226_Row_Row V221 [0] = true by decide +kernel))) (F_13 0 12) (rfl) (show inr (1) by omega) (show inr (y10_0_5) by omega) (fun z52 σ52 F52ₚ A52ₚ Hₚ Oₚ hS52 hA52 y52_0_12 ey52_0_12 pz52_0 pz52_1 pz52_2 => ⟨rfl, ?_⟩))
          refine v_back (c := c_13) (s := s_13) H (show vsub V226_Row_Row V221 [0] = true by decide +kernel) Hₚ Oₚ (fun F52 A52 H Oₚ eF52 eA52 => ?_)
          have O := OUT_trans O Oₚ
          -- Tokens.fail
          have r53 : (-2147483648 : Int) ≤ y52_0_12 ∧ y52_0_12 ≤ 2147483647 := by have h1 : (-2147483648 : Int) ≤ F52 0 12 ∧ F52 0 12 ≤ 2147483647 := H.krg 0 12 (by decide); rw [show F52 0 12 = y52_0_12 from ((eF52 0 12).trans ey52_0_12)] at h1; exact h1
          exact w_ireturn rfl (k (z52) _ _ _ _ _ _ _ H O (SD_trans (SD_refl) hD_13 (any_subA rfl)) (SD_trans (SD_refl) hN_13 (any_subA rfl)) (SF_trans (SF_trans (SF_trans (SF_refl) (SF_glu (ι := [0, 1, 2, 3]) hS10 eF10 (by decide +kernel)) (any_sub (lₚ := [(0, 4), (0, 5), (0, 6), (0, 7), (0, 12)]) rfl)) hS_13 (any_sub rfl)) (SF_glu (ι := [0]) hS52 eF52 (by decide +kernel)) (any_sub (lₚ := [(0, 12)]) rfl)) (SA_trans (SA_trans (SA_trans (SA_refl) (SA_glu (ι := [0, 1, 2, 3]) hA10 eA10 (by decide +kernel)) (any_subA (lₚ := []) rfl)) hA_13 (any_subA rfl)) (SA_glu (ι := [0]) hA52 eA52 (by decide +kernel)) (any_subA (lₚ := []) rfl)) ((((show F52 2 0 = F_13 2 0 from (eF52 2 0)))).trans (pm13_4)) (m13_4) (em13_4) (y13_2_1) ((((show F52 2 1 = F_13 2 1 from (eF52 2 1))).trans (ey13_2_1))) (show inr (z52) by omega) (show 0 ≤ (z52) ∧ (z52) ≤ 11 by omega) (show 0 ≤ (y13_2_1) ∧ (y13_2_1) ≤ (m13_4) ∧ (m13_4) ≤ 65536 by omega))
