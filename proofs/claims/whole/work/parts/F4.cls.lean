abbrev V107_Br : vV := [(0, 3, [(4, 0), (4, 0), (4, 0), (0, 0), (4, 0), (4, 0), (4, 0), (4, 0), (4, 0), (4, 0), (4, 0), (4, 0), (4, 0), (0, 0), (0, 0), (0, 0), (0, 0)]), (1, 0, []), (1, 1, []), (1, 1, []), (1, 1, []), (1, 1, []), (0, 8, [(0, 0), (0, 0), (4, 0), (4, 0), (4, 0), (4, 0), (4, 0), (4, 0), (4, 0), (4, 0), (4, 0), (0, 0), (0, 0)]), (1, 1, []), (1, 1, []), (1, 1, []), (1, 1, []), (1, 1, []), (1, 1, []), (1, 1, []), (1, 1, []), (0, 2, [(4, 0), (0, 0), (0, 0)])]
set_option maxHeartbeats 16000000 in
/-- Codes.hear: this, #1, this.weights, this.lengths, this.codes, this.cells, this.weightShare, this.weightShare.points, this.weightShare.masses, this.weightShare.mostBits, this.weightShare.starts, this.weightShare.used, this.weightShare.numberAt, this.weightShare.symbolAt, this.weightShare.placeOf, this.source -/
theorem C107_Br {σE : rS} {D N : Nat → Nat} {F : hF} {A : hA} {d c s : Nat} {Q : wQ} (H : HW V107_Br σE D N F A) {a2 a3 : Int} (pf2 : F 0 4 = (D 2 : Int)) (pf3 : F 0 0 = (D 3 : Int)) (pf4 : F 0 1 = (D 4 : Int)) (pf5 : F 0 2 = (D 5 : Int)) (pf6 : F 0 6 = (D 6 : Int)) (pf7 : F 6 2 = (D 7 : Int)) (pf8 : F 6 3 = (D 8 : Int)) (pf9 : F 6 4 = (D 9 : Int)) (pf10 : F 6 5 = (D 10 : Int)) (pf11 : F 6 6 = (D 11 : Int)) (pf12 : F 6 8 = (D 12 : Int)) (pf13 : F 6 7 = (D 13 : Int)) (pf14 : F 6 9 = (D 14 : Int)) (pf15 : F 0 9 = (D 15 : Int)) (n1 : Int) (en1 : (N 1 : Int) = n1) (n2 : Int) (en2 : (N 2 : Int) = n2) (n3 : Int) (en3 : (N 3 : Int) = n3) (n4 : Int) (en4 : (N 4 : Int) = n4) (n5 : Int) (en5 : (N 5 : Int) = n5) (n7 : Int) (en7 : (N 7 : Int) = n7) (n8 : Int) (en8 : (N 8 : Int) = n8) (n9 : Int) (en9 : (N 9 : Int) = n9) (n10 : Int) (en10 : (N 10 : Int) = n10) (n11 : Int) (en11 : (N 11 : Int) = n11) (n12 : Int) (en12 : (N 12 : Int) = n12) (n13 : Int) (en13 : (N 13 : Int) = n13) (n14 : Int) (en14 : (N 14 : Int) = n14) (u0_3 : Int) (eu0_3 : F 0 3 = u0_3) (u6_1 : Int) (eu6_1 : F 6 1 = u6_1) (w1 : Int → Int) (ew1 : A 1 = w1) (w3 : Int → Int) (ew3 : A 3 = w3) (w4 : Int → Int) (ew4 : A 4 = w4) (w5 : Int → Int) (ew5 : A 5 = w5) (h0 : inr (a2)) (h1 : inr (a3)) (h2 : 0 ≤ (a2) ∧ (a2) ≤ 65536 ∧ 0 ≤ (a3) ∧ (a3) ≤ (n1) ∧ (n1) ≤ 65536) (h3 : (n2) = 256 ∧ (n3) = 256 ∧ (n4) = 256 ∧ (n5) = 2048) (h4 : (n7) = (u6_1) ∧ (n8) = (u6_1) ∧ (n9) = (u6_1) ∧ (n10) = (u6_1) ∧ (n11) = (u6_1) ∧ (n12) = (n13) ∧ (n14) = (n13) ∧ 1 ≤ (u6_1) ∧ (u6_1) ≤ 64 ∧ (u6_1) = 12 ∧ (n13) = 64) (h5 : CEL ((w5))) (k : ∀ (z : Int) (σ : rS) (F' : hF) (A' : hA), HW V107_Br σ D N F' A' → OUT (V107_Br).length D N σE c s D N σ c s → SF [(0, 3), (6, 0), (6, 10), (6, 11), (6, 12), (15, 0), (15, 1), (15, 2)] F F' → SA [2, 3, 4, 5, 7, 8, 9, 10, 11, 12, 13, 14] A A' → ∀ y0_3 : Int, F' 0 3 = y0_3 → ∀ v3 : Int → Int, A' 3 = v3 → ∀ v4 : Int → Int, A' 4 = v4 → ∀ v5 : Int → Int, A' 5 = v5 → (inr (z)) → ((z) = -1 ∨ (a2) < (z) ∧ (z) ≤ (a3)) → (CEL ((v5))) → ((z) = -1 ∨ 0 ≤ (y0_3) ∧ (y0_3) ≤ 11) → ((z) = -1 ∨ LNG ((v3)) ((y0_3))) → (DSA (ub8 ((w1))) ((a2)) ((a3)) ((z)) ((y0_3)) ((v3))) → (IMP ((z) ≠ -1) (CI ((v3)) ((y0_3)))) → (IMP ((z) ≠ -1) (CDX ((v3)) ((y0_3)) ((v5)) ((v4)))) → Q (some (I z)) σ c s) : Ew 107 (d + 4) 0 (rargs 0 [.ref (D 0), .ref (D 1), I a2, I a3]) [] σE c s Q := by
  have O := OUT_refl (n := (V107_Br).length) (D := D) (N := N) (σ := σE) (c := c) (s := s)
  have HE := H
  have r1 : (-2147483648 : Int) ≤ u0_3 ∧ u0_3 ≤ 2147483647 := by have h1 : (-2147483648 : Int) ≤ F 0 3 ∧ F 0 3 ≤ 2147483647 := H.krg 0 3 (by decide); rw [show F 0 3 = u0_3 from (eu0_3)] at h1; exact h1
  have r2 : (-2147483648 : Int) ≤ u6_1 ∧ u6_1 ≤ 2147483647 := by have h1 : (-2147483648 : Int) ≤ F 6 1 ∧ F 6 1 ≤ 2147483647 := H.krg 6 1 (by decide); rw [show F 6 1 = u6_1 from (eu6_1)] at h1; exact h1
  have r3 : (0 : Int) ≤ n1 ∧ n1 ≤ 1000000 := by have h1 := H.nle 1 (by decide); have h2 : (N 1 : Int) = n1 := en1; omega
  have r4 : (0 : Int) ≤ n2 ∧ n2 ≤ 1000000 := by have h1 := H.nle 2 (by decide); have h2 : (N 2 : Int) = n2 := en2; omega
  have r5 : (0 : Int) ≤ n3 ∧ n3 ≤ 1000000 := by have h1 := H.nle 3 (by decide); have h2 : (N 3 : Int) = n3 := en3; omega
  have r6 : (0 : Int) ≤ n4 ∧ n4 ≤ 1000000 := by have h1 := H.nle 4 (by decide); have h2 : (N 4 : Int) = n4 := en4; omega
  have r7 : (0 : Int) ≤ n5 ∧ n5 ≤ 1000000 := by have h1 := H.nle 5 (by decide); have h2 : (N 5 : Int) = n5 := en5; omega
  have r8 : (0 : Int) ≤ n7 ∧ n7 ≤ 1000000 := by have h1 := H.nle 7 (by decide); have h2 : (N 7 : Int) = n7 := en7; omega
  have r9 : (0 : Int) ≤ n8 ∧ n8 ≤ 1000000 := by have h1 := H.nle 8 (by decide); have h2 : (N 8 : Int) = n8 := en8; omega
  have r10 : (0 : Int) ≤ n9 ∧ n9 ≤ 1000000 := by have h1 := H.nle 9 (by decide); have h2 : (N 9 : Int) = n9 := en9; omega
  have r11 : (0 : Int) ≤ n10 ∧ n10 ≤ 1000000 := by have h1 := H.nle 10 (by decide); have h2 : (N 10 : Int) = n10 := en10; omega
  have r12 : (0 : Int) ≤ n11 ∧ n11 ≤ 1000000 := by have h1 := H.nle 11 (by decide); have h2 : (N 11 : Int) = n11 := en11; omega
  have r13 : (0 : Int) ≤ n12 ∧ n12 ≤ 1000000 := by have h1 := H.nle 12 (by decide); have h2 : (N 12 : Int) = n12 := en12; omega
  have r14 : (0 : Int) ≤ n13 ∧ n13 ≤ 1000000 := by have h1 := H.nle 13 (by decide); have h2 : (N 13 : Int) = n13 := en13; omega
  have r15 : (0 : Int) ≤ n14 ∧ n14 ≤ 1000000 := by have h1 := H.nle 14 (by decide); have h2 : (N 14 : Int) = n14 := en14; omega
  refine Ew_of (pc' := 1) (fun _ => x_iload_n rfl rfl) ?_
  refine Ew_of (pc' := 2) (fun _ => x_iload_n rfl rfl) ?_
  refine w_icmplt (t := 7) rfl rfl (show inr (a2) by omega) (show inr (a3) by omega) (fun b16 => ?_) (fun b16 => ?_)
  · refine Ew_of (pc' := 8) (fun _ => x_aload_n rfl rfl) ?_
    refine Ew_of (pc' := 9) (fun _ => x_iload_n rfl rfl) ?_
    refine v_lB H (o := 1) rfl rfl rfl rfl (n := n1) (en1) (show 0 ≤ a2 ∧ a2 < n1 by omega) (fun v17 ev17 qv17 => ?_)
    have ev17 : (w1) (a2) = v17 := (congrFun (ew1) (a2)).symm.trans ev17
    have hvA := ev17
    refine Ew_of (pc' := 13) (fun _ => x_sipush (z := 255) rfl (by decide)) ?_
    refine v_and255 rfl ?_
    have hwA : ub8 ((w1)) ((a2)) = ((v17 % 256)) := by show u8 _ = _; rw [hvA]; rfl
    refine Ew_of (pc' := 16) (fun _ => x_istore rfl) ?_
    refine Ew_of (pc' := 18) (fun _ => x_iload rfl rk_s) ?_
    refine Ew_of (pc' := 20) (fun _ => x_bipush (z := 127) rfl (by decide)) ?_
    refine w_isub rfl ?_
    refine Ew_of (pc' := 23) (fun _ => x_istore rfl) ?_
    refine Ew_of (pc' := 24) (fun _ => x_iload_n rfl (rk_o (rk_o (rfl) rfl rfl) rfl rfl)) ?_
    refine Ew_of (pc' := 25) (fun _ => x_iconst rfl) ?_
    refine w_iadd rfl ?_
    refine Ew_of (pc' := 28) (fun _ => x_iload rfl rk_s) ?_
    have hc42 : ∀ (tc42_0 : Int), ∀ (ls : rO) (σ : rS) (F_c42 : hF) (A_c42 : hA) , rlook ls 0 = some (.ref (D 0)) → rlook ls 1 = some (.ref (D 1)) → rlook ls 2 = some (I (a2)) → rlook ls 3 = some (I (a3)) → rlook ls 5 = some (I (((v17 % 256) - 127))) → HW V107_Br σ D N F_c42 A_c42 → OUT (V107_Br).length D N σE c s D N σ c s → SF [] F F_c42 → SA [] A A_c42 → (inr (tc42_0)) → (((((v17 % 256) - 127)) ≤ (0) ∧ (tc42_0) = ((v17 % 256))) ∨ ((((v17 % 256) - 127)) > (0) ∧ (tc42_0) = (((((v17 % 256) - 127) + 1) / 2)))) → Ew 107 (d + 4) 42 ls [I (tc42_0), I ((a2 + 1))] σ c s Q := by
     as_aux_lemma =>
      intro tc42_0 ls σ F_c42 A_c42  lc42_0 lc42_1 lc42_2 lc42_3 lc42_5 H O hS_c42 hA_c42     jc42_0 jc42_1
      refine w_iadd rfl ?_
      refine Ew_of (pc' := 45) (fun _ => x_istore rfl) ?_
      have hen : dEn (ub8 ((w1))) ((a2)) = (((a2 + 1) + tc42_0)) := by rcases (show 127 < (ub8 ((w1))) ((a2)) ∨ (ub8 ((w1))) ((a2)) ≤ 127 by omega) with z | z; (rw [dEn_1 z]; omega); (rw [dEn_0 z]; omega)
      refine Ew_of (pc' := 47) (fun _ => x_iload rfl rk_s) ?_
      refine Ew_of (pc' := 48) (fun _ => x_iload_n rfl (rk_o (lc42_3) rfl rfl)) ?_
      refine w_icmple (t := 53) rfl rfl (show inr (((a2 + 1) + tc42_0)) by omega) (show inr (a3) by omega) (fun b18 => ?_) (fun b18 => ?_)
      · refine Ew_of (pc' := 55) (fun _ => x_iload rfl (rk_o (lc42_5) rfl rfl)) ?_
        refine w_ifgt (t := 91) rfl rfl (show inr (((v17 % 256) - 127)) by omega) (fun b19 => ?_) (fun b19 => ?_)
        · refine Ew_of (pc' := 92) (fun _ => x_iconst rfl) ?_
          refine Ew_of (pc' := 94) (fun _ => x_istore rfl) ?_
          have hw0 : WTS ((A 2)) 0 := fun i a b => by omega
          have : ∀ i, 0 ≤ i → i < (0 : Int) → ((A 2)) i = dDW (ub8 ((w1))) ((a2)) i := fun i a b => absurd b (by omega)
          suffices hl94 : ∀ (m : Nat), ∀ (ls : rO) (σ : rS) (F_94 : hF) (A_94 : hA) (x94_7 : Int), rlook ls 0 = some (.ref (D 0)) → rlook ls 1 = some (.ref (D 1)) → rlook ls 2 = some (I (a2)) → rlook ls 5 = some (I (((v17 % 256) - 127))) → rlook ls 6 = some (I (((a2 + 1) + tc42_0))) → rlook ls 7 = some (I (x94_7)) → HW V107_Br σ D N F_94 A_94 → OUT (V107_Br).length D N σE c s D N σ c s → SF [] F_c42 F_94 → SA [2] A_c42 A_94 → ∀ w94_2 : Int → Int, A_94 2 = w94_2 → (inr (x94_7)) → ((0) ≤ (x94_7)) → ((x94_7) ≤ (0) ∨ (x94_7) ≤ ((((v17 % 256) - 127)))) → (WTS ((w94_2)) (x94_7)) → (∀ i, 0 ≤ i → i < (x94_7) → ((w94_2)) i = dDW (ub8 ((w1))) ((a2)) i) → (((((v17 % 256) - 127))) - (x94_7)).toNat = m → Ew 107 (d + 4) 94 ls [] σ c s Q from
            hl94 _ _ _ _ _ (0) (rk_o (rk_o (lc42_0) rfl rfl) rfl rfl) (rk_o (rk_o (lc42_1) rfl rfl) rfl rfl) (rk_o (rk_o (lc42_2) rfl rfl) rfl rfl) (rk_o (rk_o (lc42_5) rfl rfl) rfl rfl) (rk_o (rk_s) rfl rfl) (rk_s) H O (SF_refl) (SA_refl)    (A 2) (funext (hA_c42 2 rfl)) (show inr (0) by omega) (show (0) ≤ (0) by omega) (show (0) ≤ (0) ∨ (0) ≤ ((((v17 % 256) - 127))) by omega) (show WTS ((A 2)) (0) by assumption) (show ∀ i, 0 ≤ i → i < (0) → ((A 2)) i = dDW (ub8 ((w1))) ((a2)) i by assumption) rfl
          as_aux_lemma =>
          intro m
          induction m using Nat.strongRecOn with
          | _ m ih94 =>
            intro ls σ F_94 A_94 x94_7 l94_0 l94_1 l94_2 l94_5 l94_6 l94_7 H O hS_94 hA_94    w94_2 ew94_2 j94_0 j94_1 j94_2 j94_3 j94_4 hm94
            have j94_w : ∀ i, 0 ≤ i → i < (x94_7) → ((w94_2)) i = dDW (ub8 ((w1))) ((a2)) i := by assumption
            refine Ew_of (pc' := 96) (fun _ => x_iload rfl l94_7) ?_
            refine Ew_of (pc' := 98) (fun _ => x_iload rfl l94_5) ?_
            refine w_icmpge (t := 149) rfl rfl (show inr (x94_7) by omega) (show inr (((v17 % 256) - 127)) by omega) (fun b20 => ?_) (fun b20 => ?_)
            · have hl7 : (x94_7) = (((v17 % 256) - 127)) := by omega
              have hwt : WTS ((w94_2)) ((((v17 % 256) - 127))) := by rw [← hl7]; assumption
              have hDW : DWA (ub8 ((w1))) ((a2)) ((a3)) ((((v17 % 256) - 127))) ((w94_2)) := DWA_d (by omega) (by omega) (by omega) (by omega) (fun i a b => j94_w i a (by omega))
              refine Ew_of (pc' := 150) (fun _ => x_aload_n rfl l94_0) ?_
              refine Ew_of (pc' := 152) (fun _ => x_iload rfl l94_5) ?_
              refine v_inv H (o := 0) rfl rfl rfl rfl rfl rfl (by rfl) (C109 (D := pul [0, 2, 3, 4, 5] D) (N := pul [0, 2, 3, 4, 5] N) (HW_sub H (VS_of (show vsub V107_Br V109 [0, 2, 3, 4, 5] = true by decide +kernel))) ((((hS_94 0 4 rfl).trans (hS_c42 0 4 rfl))).trans (pf2)) ((((hS_94 0 0 rfl).trans (hS_c42 0 0 rfl))).trans (pf3)) ((((hS_94 0 1 rfl).trans (hS_c42 0 1 rfl))).trans (pf4)) ((((hS_94 0 2 rfl).trans (hS_c42 0 2 rfl))).trans (pf5)) (n2) (en2) (n3) (en3) (n4) (en4) (n5) (en5) (u0_3) ((((hS_94 0 3 rfl).trans (hS_c42 0 3 rfl)).trans (eu0_3))) (w94_2) (ew94_2) (w3) ((funext (hA_94 3 rfl)).trans ((funext (hA_c42 3 rfl)).trans (ew3))) (w4) ((funext (hA_94 4 rfl)).trans ((funext (hA_c42 4 rfl)).trans (ew4))) (w5) ((funext (hA_94 5 rfl)).trans ((funext (hA_c42 5 rfl)).trans (ew5))) (show inr (((v17 % 256) - 127)) by omega) (show (n2) = 256 ∧ (n3) = 256 ∧ (n4) = 256 ∧ (n5) = 2048 by omega) (show 1 ≤ (((v17 % 256) - 127)) ∧ (((v17 % 256) - 127)) ≤ 255 by omega) (show WTS ((w94_2)) (((v17 % 256) - 127)) by assumption) (show CEL ((w5)) by assumption) (fun z21 σ21 F21' A21' H' O' hS21 hA21 y21_0_3 ey21_0_3 w21_2 ew21_2 w21_3 ew21_3 w21_4 ew21_4 pz21_0 pz21_1 pz21_2 pz21_3 pz21_4 pz21_5 pz21_6 => ⟨rretB rfl pz21_0, ?_⟩))
              refine v_back (c := c) (s := s) H (show vsub V107_Br V109 [0, 2, 3, 4, 5] = true by decide +kernel) H' O' (fun F21 A21 H O' eF21 eA21 => ?_)
              have O := OUT_trans O O'
              -- Codes.complete
              have r22 : (-2147483648 : Int) ≤ y21_0_3 ∧ y21_0_3 ≤ 2147483647 := by have h1 : (-2147483648 : Int) ≤ F21 0 3 ∧ F21 0 3 ≤ 2147483647 := H.krg 0 3 (by decide); rw [show F21 0 3 = y21_0_3 from ((eF21 0 3).trans ey21_0_3)] at h1; exact h1
              refine w_ifeq (t := 163) rfl rfl (show inr (z21) by omega) (fun b23 => ?_) (fun b23 => ?_)
              · have hno : (-1 : Int) = -1 ∨ LNG ((w21_2)) ((y21_0_3)) := .inl rfl
                refine Ew_of (pc' := 164) (fun _ => x_iconst rfl) ?_
                have : DSA (ub8 ((w1))) ((a2)) ((a3)) (((-1))) ((y21_0_3)) ((w21_2)) := by first | (have h := (pz21_4 _ _ _ hDW).2 (by omega); rw [hen] at h; exact h) | exact (pz21_4 _ _ _ hDW).1 (by omega) _ _
                have : IMP (((-1)) ≠ -1) (CI ((w21_2)) ((y21_0_3))) := by first | exact fun z => absurd rfl z | exact fun _ => pz21_5 (by omega)
                have : IMP (((-1)) ≠ -1) (CDX ((w21_2)) ((y21_0_3)) ((w21_4)) ((w21_3))) := by first | exact fun z => absurd rfl z | exact fun _ => pz21_6 (by omega)
                exact w_ireturn rfl (k ((-1)) _ _ _ H O (SF_trans (SF_trans (SF_trans (SF_refl) hS_c42 (any_sub rfl)) hS_94 (any_sub rfl)) (SF_glu (ι := [0, 2, 3, 4, 5]) hS21 eF21 (by decide +kernel)) (any_sub (l' := [(0, 3)]) rfl)) (SA_trans (SA_trans (SA_trans (SA_refl) hA_c42 (any_subA rfl)) hA_94 (any_subA rfl)) (SA_glu (ι := [0, 2, 3, 4, 5]) hA21 eA21 (by decide +kernel)) (any_subA (l' := [2, 3, 4, 5]) rfl)) (y21_0_3) (((eF21 0 3).trans ey21_0_3)) (w21_2) ((eA21 3).trans ew21_2) (w21_3) ((eA21 4).trans ew21_3) (w21_4) ((eA21 5).trans ew21_4) (show inr ((-1)) by omega) (show ((-1)) = -1 ∨ a2 < ((-1)) ∧ ((-1)) ≤ a3 by omega) (show CEL ((w21_4)) by assumption) (show ((-1)) = -1 ∨ 0 ≤ (y21_0_3) ∧ (y21_0_3) ≤ 11 by omega) (show ((-1)) = -1 ∨ LNG ((w21_2)) ((y21_0_3)) by assumption) (show DSA (ub8 ((w1))) (a2) (a3) (((-1))) ((y21_0_3)) ((w21_2)) by assumption) (show IMP (((-1)) ≠ -1) (CI ((w21_2)) ((y21_0_3))) by assumption) (show IMP (((-1)) ≠ -1) (CDX ((w21_2)) ((y21_0_3)) ((w21_4)) ((w21_3))) by assumption))
              · have hyc : ((((a2 + 1) + tc42_0)) : Int) = -1 ∨ LNG ((w21_2)) ((y21_0_3)) := .inr (Or.resolve_left pz21_2 (by omega))
                refine Ew_of (pc' := 160) (fun _ => x_iload rfl l94_6) ?_
                refine Ew_of (pc' := 164) (fun _ => x_goto rfl rfl) ?_
                have : DSA (ub8 ((w1))) ((a2)) ((a3)) ((((a2 + 1) + tc42_0))) ((y21_0_3)) ((w21_2)) := by first | (have h := (pz21_4 _ _ _ hDW).2 (by omega); rw [hen] at h; exact h) | exact (pz21_4 _ _ _ hDW).1 (by omega) _ _
                have : IMP ((((a2 + 1) + tc42_0)) ≠ -1) (CI ((w21_2)) ((y21_0_3))) := by first | exact fun z => absurd rfl z | exact fun _ => pz21_5 (by omega)
                have : IMP ((((a2 + 1) + tc42_0)) ≠ -1) (CDX ((w21_2)) ((y21_0_3)) ((w21_4)) ((w21_3))) := by first | exact fun z => absurd rfl z | exact fun _ => pz21_6 (by omega)
                exact w_ireturn rfl (k (((a2 + 1) + tc42_0)) _ _ _ H O (SF_trans (SF_trans (SF_trans (SF_refl) hS_c42 (any_sub rfl)) hS_94 (any_sub rfl)) (SF_glu (ι := [0, 2, 3, 4, 5]) hS21 eF21 (by decide +kernel)) (any_sub (l' := [(0, 3)]) rfl)) (SA_trans (SA_trans (SA_trans (SA_refl) hA_c42 (any_subA rfl)) hA_94 (any_subA rfl)) (SA_glu (ι := [0, 2, 3, 4, 5]) hA21 eA21 (by decide +kernel)) (any_subA (l' := [2, 3, 4, 5]) rfl)) (y21_0_3) (((eF21 0 3).trans ey21_0_3)) (w21_2) ((eA21 3).trans ew21_2) (w21_3) ((eA21 4).trans ew21_3) (w21_4) ((eA21 5).trans ew21_4) (show inr (((a2 + 1) + tc42_0)) by omega) (show (((a2 + 1) + tc42_0)) = -1 ∨ a2 < (((a2 + 1) + tc42_0)) ∧ (((a2 + 1) + tc42_0)) ≤ a3 by omega) (show CEL ((w21_4)) by assumption) (show (((a2 + 1) + tc42_0)) = -1 ∨ 0 ≤ (y21_0_3) ∧ (y21_0_3) ≤ 11 by omega) (show (((a2 + 1) + tc42_0)) = -1 ∨ LNG ((w21_2)) ((y21_0_3)) by assumption) (show DSA (ub8 ((w1))) (a2) (a3) ((((a2 + 1) + tc42_0))) ((y21_0_3)) ((w21_2)) by assumption) (show IMP ((((a2 + 1) + tc42_0)) ≠ -1) (CI ((w21_2)) ((y21_0_3))) by assumption) (show IMP ((((a2 + 1) + tc42_0)) ≠ -1) (CDX ((w21_2)) ((y21_0_3)) ((w21_4)) ((w21_3))) by assumption))
            · refine Ew_of (pc' := 102) (fun _ => x_aload_n rfl l94_1) ?_
              refine Ew_of (pc' := 103) (fun _ => x_iload_n rfl l94_2) ?_
              refine Ew_of (pc' := 104) (fun _ => x_iconst rfl) ?_
              refine w_iadd rfl ?_
              refine Ew_of (pc' := 107) (fun _ => x_iload rfl l94_7) ?_
              refine Ew_of (pc' := 108) (fun _ => x_iconst rfl) ?_
              refine w_idiv rfl (show inr (x94_7) ∧ 0 ≤ x94_7 by omega) (show inr (2) ∧ 0 < 2 by omega) ?_
              refine w_iadd rfl ?_
              refine v_lB H (o := 1) rfl rfl rfl rfl (n := n1) (en1) (show 0 ≤ ((a2 + 1) + (x94_7 / 2)) ∧ ((a2 + 1) + (x94_7 / 2)) < n1 by omega) (fun v24 ev24 qv24 => ?_)
              have ev24 : (w1) (((a2 + 1) + (x94_7 / 2))) = v24 := (congrFun ((funext (hA_94 1 rfl)).trans ((funext (hA_c42 1 rfl)).trans (ew1))) (((a2 + 1) + (x94_7 / 2)))).symm.trans ev24
              have hvB := ev24
              refine Ew_of (pc' := 114) (fun _ => x_sipush (z := 255) rfl (by decide)) ?_
              refine v_and255 rfl ?_
              have hwB : ub8 ((w1)) ((a2) + 1 + (x94_7) / 2) = ((v24 % 256)) := by show u8 _ = _; rw [hvB]; rfl
              refine Ew_of (pc' := 117) (fun _ => x_istore rfl) ?_
              refine Ew_of (pc' := 118) (fun _ => x_aload_n rfl (rk_o (l94_0) rfl rfl)) ?_
              refine v_g H (o := 0) (v := .ref (D 2)) rfl rfl rfl rfl rfl (vrf ((((hS_94 0 4 rfl).trans (hS_c42 0 4 rfl))).trans (pf2))) ?_
              refine Ew_of (pc' := 123) (fun _ => x_iload rfl (rk_o (l94_7) rfl rfl)) ?_
              refine Ew_of (pc' := 125) (fun _ => x_iload rfl (rk_o (l94_7) rfl rfl)) ?_
              refine Ew_of (pc' := 126) (fun _ => x_iconst rfl) ?_
              refine w_irem rfl (show inr (x94_7) ∧ 0 ≤ x94_7 by omega) (show inr (2) ∧ 0 < 2 by omega) ?_
              refine w_ifne (t := 137) rfl rfl (show inr ((x94_7 % 2)) by omega) (fun b25 => ?_) (fun b25 => ?_)
              · refine Ew_of (pc' := 139) (fun _ => x_iload rfl rk_s) ?_
                refine Ew_of (pc' := 141) (fun _ => x_bipush (z := 15) rfl (by decide)) ?_
                refine w_iandG rfl ?_
                have g26 : inr (andI ((v24 % 256)) (15)) := toI_inr _
                have hr15 : 0 ≤ ((andI ((v24 % 256)) (15))) ∧ ((andI ((v24 % 256)) (15))) ≤ 15 := by first | (rw [andI_15]; omega) | (rw [srI_d (by omega) (by omega), show p2 4 = 16 by decide]; omega)
                refine v_sI H (o := 2) (z := (andI ((v24 % 256)) (15))) rfl rfl rfl rfl (n := n2) (en2) (show 0 ≤ x94_7 ∧ x94_7 < n2 by omega) (show inr ((andI ((v24 % 256)) (15))) by omega) (fun σ H O' => ?_)
                have O := OUT_trans O O'
                refine Ew_of (pc' := 146) (fun _ => x_iinc (len := 3) rfl (rk_o (l94_7) rfl rfl)) ?_
                refine Ew_of (pc' := 94) (fun _ => x_goto rfl rfl) ?_
                have hw1 : WTS ((upd1 (w94_2) (x94_7) ((andI ((v24 % 256)) (15))))) ((x94_7 + 1)) := WTS_s (by assumption) rfl (by omega)
                have : ∀ i, 0 ≤ i → i < ((x94_7 + 1)) → ((upd1 (w94_2) (x94_7) ((andI ((v24 % 256)) (15))))) i = dDW (ub8 ((w1))) ((a2)) i := by first | exact pt_upd j94_w (by rw [dDW_0 (by omega) (by omega) (by omega) rfl hwB, srI_d (by omega) (by omega), show p2 4 = 16 by decide]) | exact pt_upd j94_w (by rw [dDW_1 (by omega) (by omega) (by omega) rfl hwB]; exact andI_15 _)
                exact ih94 _ (by omega) _ _ _ _ ((x94_7 + 1)) (rk_o (rk_o (l94_0) rfl rfl) rfl rfl) (rk_o (rk_o (l94_1) rfl rfl) rfl rfl) (rk_o (rk_o (l94_2) rfl rfl) rfl rfl) (rk_o (rk_o (l94_5) rfl rfl) rfl rfl) (rk_o (rk_o (l94_6) rfl rfl) rfl rfl) (rk_s) H O (hS_94) (SA_upd (hA_94) rfl)    (upd1 (w94_2) (x94_7) ((andI ((v24 % 256)) (15)))) (congrArg (fun q => upd1 q (x94_7) ((andI ((v24 % 256)) (15)))) (ew94_2)) (show inr ((x94_7 + 1)) by omega) (show (0) ≤ ((x94_7 + 1)) by omega) (show ((x94_7 + 1)) ≤ (0) ∨ ((x94_7 + 1)) ≤ ((((v17 % 256) - 127))) by omega) (show WTS ((upd1 (w94_2) (x94_7) ((andI ((v24 % 256)) (15))))) ((x94_7 + 1)) by assumption) (show ∀ i, 0 ≤ i → i < ((x94_7 + 1)) → ((upd1 (w94_2) (x94_7) ((andI ((v24 % 256)) (15))))) i = dDW (ub8 ((w1))) ((a2)) i by assumption) rfl
              · refine Ew_of (pc' := 132) (fun _ => x_iload rfl rk_s) ?_
                refine Ew_of (pc' := 133) (fun _ => x_iconst rfl) ?_
                refine w_ishrG rfl ?_
                have g27 : inr (srI ((v24 % 256)) (4)) := toI_inr _
                refine Ew_of (pc' := 142) (fun _ => x_goto rfl rfl) ?_
                have hr15 : 0 ≤ ((srI ((v24 % 256)) (4))) ∧ ((srI ((v24 % 256)) (4))) ≤ 15 := by first | (rw [andI_15]; omega) | (rw [srI_d (by omega) (by omega), show p2 4 = 16 by decide]; omega)
                refine v_sI H (o := 2) (z := (srI ((v24 % 256)) (4))) rfl rfl rfl rfl (n := n2) (en2) (show 0 ≤ x94_7 ∧ x94_7 < n2 by omega) (show inr ((srI ((v24 % 256)) (4))) by omega) (fun σ H O' => ?_)
                have O := OUT_trans O O'
                refine Ew_of (pc' := 146) (fun _ => x_iinc (len := 3) rfl (rk_o (l94_7) rfl rfl)) ?_
                refine Ew_of (pc' := 94) (fun _ => x_goto rfl rfl) ?_
                have hw1 : WTS ((upd1 (w94_2) (x94_7) ((srI ((v24 % 256)) (4))))) ((x94_7 + 1)) := WTS_s (by assumption) rfl (by omega)
                have : ∀ i, 0 ≤ i → i < ((x94_7 + 1)) → ((upd1 (w94_2) (x94_7) ((srI ((v24 % 256)) (4))))) i = dDW (ub8 ((w1))) ((a2)) i := by first | exact pt_upd j94_w (by rw [dDW_0 (by omega) (by omega) (by omega) rfl hwB, srI_d (by omega) (by omega), show p2 4 = 16 by decide]) | exact pt_upd j94_w (by rw [dDW_1 (by omega) (by omega) (by omega) rfl hwB]; exact andI_15 _)
                exact ih94 _ (by omega) _ _ _ _ ((x94_7 + 1)) (rk_o (rk_o (l94_0) rfl rfl) rfl rfl) (rk_o (rk_o (l94_1) rfl rfl) rfl rfl) (rk_o (rk_o (l94_2) rfl rfl) rfl rfl) (rk_o (rk_o (l94_5) rfl rfl) rfl rfl) (rk_o (rk_o (l94_6) rfl rfl) rfl rfl) (rk_s) H O (hS_94) (SA_upd (hA_94) rfl)    (upd1 (w94_2) (x94_7) ((srI ((v24 % 256)) (4)))) (congrArg (fun q => upd1 q (x94_7) ((srI ((v24 % 256)) (4)))) (ew94_2)) (show inr ((x94_7 + 1)) by omega) (show (0) ≤ ((x94_7 + 1)) by omega) (show ((x94_7 + 1)) ≤ (0) ∨ ((x94_7 + 1)) ≤ ((((v17 % 256) - 127))) by omega) (show WTS ((upd1 (w94_2) (x94_7) ((srI ((v24 % 256)) (4))))) ((x94_7 + 1)) by assumption) (show ∀ i, 0 ≤ i → i < ((x94_7 + 1)) → ((upd1 (w94_2) (x94_7) ((srI ((v24 % 256)) (4))))) i = dDW (ub8 ((w1))) ((a2)) i by assumption) rfl
        · refine Ew_of (pc' := 59) (fun _ => x_aload_n rfl (rk_o (lc42_0) rfl rfl)) ?_
          refine Ew_of (pc' := 60) (fun _ => x_aload_n rfl (rk_o (lc42_1) rfl rfl)) ?_
          refine Ew_of (pc' := 61) (fun _ => x_iload_n rfl (rk_o (lc42_2) rfl rfl)) ?_
          refine Ew_of (pc' := 62) (fun _ => x_iconst rfl) ?_
          refine w_iadd rfl ?_
          refine Ew_of (pc' := 65) (fun _ => x_iload rfl rk_s) ?_
          refine v_inv H (o := 0) rfl rfl rfl rfl rfl rfl (by rfl) (C108_Br (D := pul [0, 1, 2, 6, 7, 8, 9, 10, 11, 12, 13, 14, 15] D) (N := pul [0, 1, 2, 6, 7, 8, 9, 10, 11, 12, 13, 14, 15] N) (HW_sub H (VS_of (show vsub V107_Br V108_Br [0, 1, 2, 6, 7, 8, 9, 10, 11, 12, 13, 14, 15] = true by decide +kernel))) (((hS_c42 0 4 rfl)).trans (pf2)) (((hS_c42 0 6 rfl)).trans (pf6)) (((hS_c42 6 2 rfl)).trans (pf7)) (((hS_c42 6 3 rfl)).trans (pf8)) (((hS_c42 6 4 rfl)).trans (pf9)) (((hS_c42 6 5 rfl)).trans (pf10)) (((hS_c42 6 6 rfl)).trans (pf11)) (((hS_c42 6 8 rfl)).trans (pf12)) (((hS_c42 6 7 rfl)).trans (pf13)) (((hS_c42 6 9 rfl)).trans (pf14)) (((hS_c42 0 9 rfl)).trans (pf15)) (n1) (en1) (n2) (en2) (n7) (en7) (n8) (en8) (n9) (en9) (n10) (en10) (n11) (en11) (n12) (en12) (n13) (en13) (n14) (en14) (u6_1) (((hS_c42 6 1 rfl).trans (eu6_1))) (w1) ((funext (hA_c42 1 rfl)).trans (ew1)) (A 2) (funext (hA_c42 2 rfl)) (show inr ((a2 + 1)) by omega) (show inr (((a2 + 1) + tc42_0)) by omega) (show 0 ≤ ((a2 + 1)) ∧ ((a2 + 1)) ≤ 65536 ∧ 0 ≤ (((a2 + 1) + tc42_0)) ∧ (((a2 + 1) + tc42_0)) ≤ (n1) ∧ (n1) ≤ 65536 ∧ ((a2 + 1)) ≤ (((a2 + 1) + tc42_0)) by omega) (show (n2) = 256 by omega) (show (n7) = (u6_1) ∧ (n8) = (u6_1) ∧ (n9) = (u6_1) ∧ (n10) = (u6_1) ∧ (n11) = (u6_1) ∧ (n12) = (n13) ∧ (n14) = (n13) ∧ 1 ≤ (u6_1) ∧ (u6_1) ≤ 64 ∧ (u6_1) = 12 ∧ (n13) = 64 by omega) (fun z28 σ28 F28' A28' H' O' hS28 hA28 w28_2 ew28_2 pz28_0 pz28_1 pz28_2 pz28_3 => ⟨rfl, ?_⟩))
          refine v_back (c := c) (s := s) H (show vsub V107_Br V108_Br [0, 1, 2, 6, 7, 8, 9, 10, 11, 12, 13, 14, 15] = true by decide +kernel) H' O' (fun F28 A28 H O' eF28 eA28 => ?_)
          have O := OUT_trans O O'
          -- Codes.hearByStates
          have hwba := pz28_3
          refine Ew_of (pc' := 70) (fun _ => x_istore rfl) ?_
          refine Ew_of (pc' := 72) (fun _ => x_iload rfl rk_s) ?_
          refine w_ifle (t := 89) rfl rfl (show inr (z28) by omega) (fun b29 => ?_) (fun b29 => ?_)
          · have hno : (-1 : Int) = -1 ∨ LNG ((w3)) ((u0_3)) := .inl rfl
            refine Ew_of (pc' := 90) (fun _ => x_iconst rfl) ?_
            have : DSA (ub8 ((w1))) ((a2)) ((a3)) (((-1))) ((u0_3)) ((w3)) := by first | (have h := (pNONE_4 _ _ _ hDW).2 (by omega); rw [hen] at h; exact h) | exact (pNONE_4 _ _ _ hDW).1 (by omega) _ _ | exact DSA_n (DWN_s (by omega) (by omega) hen.symm (by omega) hwba (by omega) (by omega)) (by omega)
            have : IMP (((-1)) ≠ -1) (CI ((w3)) ((u0_3))) := by first | exact fun z => absurd rfl z | exact fun _ => pNONE_5 (by omega)
            have : IMP (((-1)) ≠ -1) (CDX ((w3)) ((u0_3)) ((w5)) ((w4))) := by first | exact fun z => absurd rfl z | exact fun _ => pNONE_6 (by omega)
            exact w_ireturn rfl (k ((-1)) _ _ _ H O (SF_trans (SF_trans (SF_refl) hS_c42 (any_sub rfl)) (SF_glu (ι := [0, 1, 2, 6, 7, 8, 9, 10, 11, 12, 13, 14, 15]) hS28 eF28 (by decide +kernel)) (any_sub (l' := [(6, 0), (6, 10), (6, 11), (6, 12), (15, 0), (15, 1), (15, 2)]) rfl)) (SA_trans (SA_trans (SA_refl) hA_c42 (any_subA rfl)) (SA_glu (ι := [0, 1, 2, 6, 7, 8, 9, 10, 11, 12, 13, 14, 15]) hA28 eA28 (by decide +kernel)) (any_subA (l' := [2, 7, 8, 9, 10, 11, 12, 13, 14]) rfl)) (u0_3) (((((show F28 0 3 = F_c42 0 3 from (eF28 0 3).trans (hS28 0 3 rfl))).trans (hS_c42 0 3 rfl)).trans (eu0_3))) (w3) (((show A28 3 = A_c42 3 from (eA28 3))).trans ((funext (hA_c42 3 rfl)).trans (ew3))) (w4) (((show A28 4 = A_c42 4 from (eA28 4))).trans ((funext (hA_c42 4 rfl)).trans (ew4))) (w5) (((show A28 5 = A_c42 5 from (eA28 5))).trans ((funext (hA_c42 5 rfl)).trans (ew5))) (show inr ((-1)) by omega) (show ((-1)) = -1 ∨ a2 < ((-1)) ∧ ((-1)) ≤ a3 by omega) (show CEL ((w5)) by assumption) (show ((-1)) = -1 ∨ 0 ≤ (u0_3) ∧ (u0_3) ≤ 11 by omega) (show ((-1)) = -1 ∨ LNG ((w3)) ((u0_3)) by assumption) (show DSA (ub8 ((w1))) (a2) (a3) (((-1))) ((u0_3)) ((w3)) by assumption) (show IMP (((-1)) ≠ -1) (CI ((w3)) ((u0_3))) by assumption) (show IMP (((-1)) ≠ -1) (CDX ((w3)) ((u0_3)) ((w5)) ((w4))) by assumption))
          · have hDW : DWA (ub8 ((w1))) ((a2)) ((a3)) ((z28)) ((w28_2)) := DWA_s (by omega) (by omega) hen.symm (by omega) hwba (by omega)
            refine Ew_of (pc' := 76) (fun _ => x_aload_n rfl (rk_o (rk_o (lc42_0) rfl rfl) rfl rfl)) ?_
            refine Ew_of (pc' := 78) (fun _ => x_iload rfl rk_s) ?_
            refine v_inv H (o := 0) rfl rfl rfl rfl rfl rfl (by rfl) (C109 (D := pul [0, 2, 3, 4, 5] D) (N := pul [0, 2, 3, 4, 5] N) (HW_sub H (VS_of (show vsub V107_Br V109 [0, 2, 3, 4, 5] = true by decide +kernel))) (((((show F28 0 4 = F_c42 0 4 from (eF28 0 4).trans (hS28 0 4 rfl))).trans (hS_c42 0 4 rfl))).trans (pf2)) (((((show F28 0 0 = F_c42 0 0 from (eF28 0 0).trans (hS28 0 0 rfl))).trans (hS_c42 0 0 rfl))).trans (pf3)) (((((show F28 0 1 = F_c42 0 1 from (eF28 0 1).trans (hS28 0 1 rfl))).trans (hS_c42 0 1 rfl))).trans (pf4)) (((((show F28 0 2 = F_c42 0 2 from (eF28 0 2).trans (hS28 0 2 rfl))).trans (hS_c42 0 2 rfl))).trans (pf5)) (n2) (en2) (n3) (en3) (n4) (en4) (n5) (en5) (u0_3) (((((show F28 0 3 = F_c42 0 3 from (eF28 0 3).trans (hS28 0 3 rfl))).trans (hS_c42 0 3 rfl)).trans (eu0_3))) (w28_2) ((eA28 2).trans ew28_2) (w3) (((show A28 3 = A_c42 3 from (eA28 3))).trans ((funext (hA_c42 3 rfl)).trans (ew3))) (w4) (((show A28 4 = A_c42 4 from (eA28 4))).trans ((funext (hA_c42 4 rfl)).trans (ew4))) (w5) (((show A28 5 = A_c42 5 from (eA28 5))).trans ((funext (hA_c42 5 rfl)).trans (ew5))) (show inr (z28) by omega) (show (n2) = 256 ∧ (n3) = 256 ∧ (n4) = 256 ∧ (n5) = 2048 by omega) (show 1 ≤ (z28) ∧ (z28) ≤ 255 by omega) (show WTS ((w28_2)) (z28) by assumption) (show CEL ((w5)) by assumption) (fun z30 σ30 F30' A30' H' O' hS30 hA30 y30_0_3 ey30_0_3 w30_2 ew30_2 w30_3 ew30_3 w30_4 ew30_4 pz30_0 pz30_1 pz30_2 pz30_3 pz30_4 pz30_5 pz30_6 => ⟨rretB rfl pz30_0, ?_⟩))
            refine v_back (c := c) (s := s) H (show vsub V107_Br V109 [0, 2, 3, 4, 5] = true by decide +kernel) H' O' (fun F30 A30 H O' eF30 eA30 => ?_)
            have O := OUT_trans O O'
            -- Codes.complete
            have r31 : (-2147483648 : Int) ≤ y30_0_3 ∧ y30_0_3 ≤ 2147483647 := by have h1 : (-2147483648 : Int) ≤ F30 0 3 ∧ F30 0 3 ≤ 2147483647 := H.krg 0 3 (by decide); rw [show F30 0 3 = y30_0_3 from ((eF30 0 3).trans ey30_0_3)] at h1; exact h1
            refine w_ifeq (t := 89) rfl rfl (show inr (z30) by omega) (fun b32 => ?_) (fun b32 => ?_)
            · have hno : (-1 : Int) = -1 ∨ LNG ((w30_2)) ((y30_0_3)) := .inl rfl
              refine Ew_of (pc' := 90) (fun _ => x_iconst rfl) ?_
              have : DSA (ub8 ((w1))) ((a2)) ((a3)) (((-1))) ((y30_0_3)) ((w30_2)) := by first | (have h := (pz30_4 _ _ _ hDW).2 (by omega); rw [hen] at h; exact h) | exact (pz30_4 _ _ _ hDW).1 (by omega) _ _ | exact DSA_n (DWN_s (by omega) (by omega) hen.symm (by omega) hwba (by omega) (by omega)) (by omega)
              have : IMP (((-1)) ≠ -1) (CI ((w30_2)) ((y30_0_3))) := by first | exact fun z => absurd rfl z | exact fun _ => pz30_5 (by omega)
              have : IMP (((-1)) ≠ -1) (CDX ((w30_2)) ((y30_0_3)) ((w30_4)) ((w30_3))) := by first | exact fun z => absurd rfl z | exact fun _ => pz30_6 (by omega)
              exact w_ireturn rfl (k ((-1)) _ _ _ H O (SF_trans (SF_trans (SF_trans (SF_refl) hS_c42 (any_sub rfl)) (SF_glu (ι := [0, 1, 2, 6, 7, 8, 9, 10, 11, 12, 13, 14, 15]) hS28 eF28 (by decide +kernel)) (any_sub (l' := [(6, 0), (6, 10), (6, 11), (6, 12), (15, 0), (15, 1), (15, 2)]) rfl)) (SF_glu (ι := [0, 2, 3, 4, 5]) hS30 eF30 (by decide +kernel)) (any_sub (l' := [(0, 3)]) rfl)) (SA_trans (SA_trans (SA_trans (SA_refl) hA_c42 (any_subA rfl)) (SA_glu (ι := [0, 1, 2, 6, 7, 8, 9, 10, 11, 12, 13, 14, 15]) hA28 eA28 (by decide +kernel)) (any_subA (l' := [2, 7, 8, 9, 10, 11, 12, 13, 14]) rfl)) (SA_glu (ι := [0, 2, 3, 4, 5]) hA30 eA30 (by decide +kernel)) (any_subA (l' := [2, 3, 4, 5]) rfl)) (y30_0_3) (((eF30 0 3).trans ey30_0_3)) (w30_2) ((eA30 3).trans ew30_2) (w30_3) ((eA30 4).trans ew30_3) (w30_4) ((eA30 5).trans ew30_4) (show inr ((-1)) by omega) (show ((-1)) = -1 ∨ a2 < ((-1)) ∧ ((-1)) ≤ a3 by omega) (show CEL ((w30_4)) by assumption) (show ((-1)) = -1 ∨ 0 ≤ (y30_0_3) ∧ (y30_0_3) ≤ 11 by omega) (show ((-1)) = -1 ∨ LNG ((w30_2)) ((y30_0_3)) by assumption) (show DSA (ub8 ((w1))) (a2) (a3) (((-1))) ((y30_0_3)) ((w30_2)) by assumption) (show IMP (((-1)) ≠ -1) (CI ((w30_2)) ((y30_0_3))) by assumption) (show IMP (((-1)) ≠ -1) (CDX ((w30_2)) ((y30_0_3)) ((w30_4)) ((w30_3))) by assumption))
            · have hyc : ((((a2 + 1) + tc42_0)) : Int) = -1 ∨ LNG ((w30_2)) ((y30_0_3)) := .inr (Or.resolve_left pz30_2 (by omega))
              refine Ew_of (pc' := 86) (fun _ => x_iload rfl (rk_o (rk_s) rfl rfl)) ?_
              refine Ew_of (pc' := 90) (fun _ => x_goto rfl rfl) ?_
              have : DSA (ub8 ((w1))) ((a2)) ((a3)) ((((a2 + 1) + tc42_0))) ((y30_0_3)) ((w30_2)) := by first | (have h := (pz30_4 _ _ _ hDW).2 (by omega); rw [hen] at h; exact h) | exact (pz30_4 _ _ _ hDW).1 (by omega) _ _ | exact DSA_n (DWN_s (by omega) (by omega) hen.symm (by omega) hwba (by omega) (by omega)) (by omega)
              have : IMP ((((a2 + 1) + tc42_0)) ≠ -1) (CI ((w30_2)) ((y30_0_3))) := by first | exact fun z => absurd rfl z | exact fun _ => pz30_5 (by omega)
              have : IMP ((((a2 + 1) + tc42_0)) ≠ -1) (CDX ((w30_2)) ((y30_0_3)) ((w30_4)) ((w30_3))) := by first | exact fun z => absurd rfl z | exact fun _ => pz30_6 (by omega)
              exact w_ireturn rfl (k (((a2 + 1) + tc42_0)) _ _ _ H O (SF_trans (SF_trans (SF_trans (SF_refl) hS_c42 (any_sub rfl)) (SF_glu (ι := [0, 1, 2, 6, 7, 8, 9, 10, 11, 12, 13, 14, 15]) hS28 eF28 (by decide +kernel)) (any_sub (l' := [(6, 0), (6, 10), (6, 11), (6, 12), (15, 0), (15, 1), (15, 2)]) rfl)) (SF_glu (ι := [0, 2, 3, 4, 5]) hS30 eF30 (by decide +kernel)) (any_sub (l' := [(0, 3)]) rfl)) (SA_trans (SA_trans (SA_trans (SA_refl) hA_c42 (any_subA rfl)) (SA_glu (ι := [0, 1, 2, 6, 7, 8, 9, 10, 11, 12, 13, 14, 15]) hA28 eA28 (by decide +kernel)) (any_subA (l' := [2, 7, 8, 9, 10, 11, 12, 13, 14]) rfl)) (SA_glu (ι := [0, 2, 3, 4, 5]) hA30 eA30 (by decide +kernel)) (any_subA (l' := [2, 3, 4, 5]) rfl)) (y30_0_3) (((eF30 0 3).trans ey30_0_3)) (w30_2) ((eA30 3).trans ew30_2) (w30_3) ((eA30 4).trans ew30_3) (w30_4) ((eA30 5).trans ew30_4) (show inr (((a2 + 1) + tc42_0)) by omega) (show (((a2 + 1) + tc42_0)) = -1 ∨ a2 < (((a2 + 1) + tc42_0)) ∧ (((a2 + 1) + tc42_0)) ≤ a3 by omega) (show CEL ((w30_4)) by assumption) (show (((a2 + 1) + tc42_0)) = -1 ∨ 0 ≤ (y30_0_3) ∧ (y30_0_3) ≤ 11 by omega) (show (((a2 + 1) + tc42_0)) = -1 ∨ LNG ((w30_2)) ((y30_0_3)) by assumption) (show DSA (ub8 ((w1))) (a2) (a3) ((((a2 + 1) + tc42_0))) ((y30_0_3)) ((w30_2)) by assumption) (show IMP ((((a2 + 1) + tc42_0)) ≠ -1) (CI ((w30_2)) ((y30_0_3))) by assumption) (show IMP ((((a2 + 1) + tc42_0)) ≠ -1) (CDX ((w30_2)) ((y30_0_3)) ((w30_4)) ((w30_3))) by assumption))
      · have hno : (-1 : Int) = -1 ∨ LNG ((w3)) ((u0_3)) := .inl rfl
        refine Ew_of (pc' := 52) (fun _ => x_iconst rfl) ?_
        have : DSA (ub8 ((w1))) ((a2)) ((a3)) (((-1))) ((u0_3)) ((w3)) := DSA_n (.inr ⟨by omega, .inl (by omega)⟩) (by omega)
        have : IMP ((-1 : Int) ≠ -1) (CI ((w3)) ((u0_3))) := fun z => absurd rfl z
        have : IMP ((-1 : Int) ≠ -1) (CDX ((w3)) ((u0_3)) ((w5)) ((w4))) := fun z => absurd rfl z
        exact w_ireturn rfl (k ((-1)) _ _ _ H O (SF_trans (SF_refl) hS_c42 (any_sub rfl)) (SA_trans (SA_refl) hA_c42 (any_subA rfl)) (u0_3) (((hS_c42 0 3 rfl).trans (eu0_3))) (w3) ((funext (hA_c42 3 rfl)).trans (ew3)) (w4) ((funext (hA_c42 4 rfl)).trans (ew4)) (w5) ((funext (hA_c42 5 rfl)).trans (ew5)) (show inr ((-1)) by omega) (show ((-1)) = -1 ∨ a2 < ((-1)) ∧ ((-1)) ≤ a3 by omega) (show CEL ((w5)) by assumption) (show ((-1)) = -1 ∨ 0 ≤ (u0_3) ∧ (u0_3) ≤ 11 by omega) (show ((-1)) = -1 ∨ LNG ((w3)) ((u0_3)) by assumption) (show DSA (ub8 ((w1))) (a2) (a3) (((-1))) ((u0_3)) ((w3)) by assumption) (show IMP (((-1)) ≠ -1) (CI ((w3)) ((u0_3))) by assumption) (show IMP (((-1)) ≠ -1) (CDX ((w3)) ((u0_3)) ((w5)) ((w4))) by assumption))
    refine w_ifle (t := 40) rfl rfl (show inr (((v17 % 256) - 127)) by omega) (fun b33 => ?_) (fun b33 => ?_)
    · refine Ew_of (pc' := 42) (fun _ => x_iload rfl (rk_o (rk_s) rfl rfl)) ?_
      exact hc42 ((v17 % 256)) _ _ _ _  (rk_o (rk_o (rfl) rfl rfl) rfl rfl) (rk_o (rk_o (rfl) rfl rfl) rfl rfl) (rk_o (rk_o (rfl) rfl rfl) rfl rfl) (rk_o (rk_o (rfl) rfl rfl) rfl rfl) (rk_s) H O (SF_refl) (SA_refl)     (show inr ((v17 % 256)) by omega) (show ((((v17 % 256) - 127)) ≤ (0) ∧ ((v17 % 256)) = ((v17 % 256))) ∨ ((((v17 % 256) - 127)) > (0) ∧ ((v17 % 256)) = (((((v17 % 256) - 127) + 1) / 2))) by omega)
    · refine Ew_of (pc' := 33) (fun _ => x_iload rfl rk_s) ?_
      refine Ew_of (pc' := 34) (fun _ => x_iconst rfl) ?_
      refine w_iadd rfl ?_
      refine Ew_of (pc' := 36) (fun _ => x_iconst rfl) ?_
      refine w_idiv rfl (show inr ((((v17 % 256) - 127) + 1)) ∧ 0 ≤ (((v17 % 256) - 127) + 1) by omega) (show inr (2) ∧ 0 < 2 by omega) ?_
      refine Ew_of (pc' := 42) (fun _ => x_goto rfl rfl) ?_
      exact hc42 (((((v17 % 256) - 127) + 1) / 2)) _ _ _ _  (rk_o (rk_o (rfl) rfl rfl) rfl rfl) (rk_o (rk_o (rfl) rfl rfl) rfl rfl) (rk_o (rk_o (rfl) rfl rfl) rfl rfl) (rk_o (rk_o (rfl) rfl rfl) rfl rfl) (rk_s) H O (SF_refl) (SA_refl)     (show inr (((((v17 % 256) - 127) + 1) / 2)) by omega) (show ((((v17 % 256) - 127)) ≤ (0) ∧ (((((v17 % 256) - 127) + 1) / 2)) = ((v17 % 256))) ∨ ((((v17 % 256) - 127)) > (0) ∧ (((((v17 % 256) - 127) + 1) / 2)) = (((((v17 % 256) - 127) + 1) / 2))) by omega)
  · have hno : (-1 : Int) = -1 ∨ LNG ((w3)) ((u0_3)) := .inl rfl
    refine Ew_of (pc' := 6) (fun _ => x_iconst rfl) ?_
    have : DSA (ub8 ((w1))) ((a2)) ((a3)) (((-1))) ((u0_3)) ((w3)) := DSA_n (.inl (by omega)) (by omega)
    have : IMP ((-1 : Int) ≠ -1) (CI ((w3)) ((u0_3))) := fun z => absurd rfl z
    have : IMP ((-1 : Int) ≠ -1) (CDX ((w3)) ((u0_3)) ((w5)) ((w4))) := fun z => absurd rfl z
    exact w_ireturn rfl (k ((-1)) _ _ _ H O (SF_refl) (SA_refl) (u0_3) ((eu0_3)) (w3) (ew3) (w4) (ew4) (w5) (ew5) (show inr ((-1)) by omega) (show ((-1)) = -1 ∨ a2 < ((-1)) ∧ ((-1)) ≤ a3 by omega) (show CEL ((w5)) by assumption) (show ((-1)) = -1 ∨ 0 ≤ (u0_3) ∧ (u0_3) ≤ 11 by omega) (show ((-1)) = -1 ∨ LNG ((w3)) ((u0_3)) by assumption) (show DSA (ub8 ((w1))) (a2) (a3) (((-1))) ((u0_3)) ((w3)) by assumption) (show IMP (((-1)) ≠ -1) (CI ((w3)) ((u0_3))) by assumption) (show IMP (((-1)) ≠ -1) (CDX ((w3)) ((u0_3)) ((w5)) ((w4))) by assumption))
abbrev V110_Br_Row : vV := [(0, 3, [(4, 0), (4, 0), (4, 0), (0, 0), (4, 0), (4, 0), (4, 0), (4, 0), (4, 0), (4, 0), (4, 0), (4, 0), (4, 0), (0, 0), (0, 0), (0, 0), (0, 0)]), (1, 0, []), (0, 7, [(4, 0), (0, 0), (1, 0), (0, 0), (0, 0)]), (1, 1, []), (1, 0, []), (0, 2, [(4, 0), (0, 0), (0, 0)])]
/-- Codes.unpack: this, #1, #2, this.cells, #2.bytes, this.source -/
theorem C110_Br_Row {σE : rS} {D N : Nat → Nat} {F : hF} {A : hA} {d c s : Nat} {Q : wQ} (H : HW V110_Br_Row σE D N F A) {a2 a3 a4 : Int} (pf3 : F 0 2 = (D 3 : Int)) (pf4 : F 2 0 = (D 4 : Int)) (pf5 : F 0 9 = (D 5 : Int)) (n1 : Int) (en1 : (N 1 : Int) = n1) (n3 : Int) (en3 : (N 3 : Int) = n3) (n4 : Int) (en4 : (N 4 : Int) = n4) (u0_3 : Int) (eu0_3 : F 0 3 = u0_3) (u2_1 : Int) (eu2_1 : F 2 1 = u2_1) (w1 : Int → Int) (ew1 : A 1 = w1) (w3 : Int → Int) (ew3 : A 3 = w3) (w4 : Int → Int) (ew4 : A 4 = w4) (GG : Int → Int) (AA : List Int) (h0 : inr (a2)) (h1 : inr (a3)) (h2 : inr (a4)) (h3 : 0 ≤ (a2) ∧ (a2) ≤ 65536 ∧ 0 ≤ (a3) ∧ (a3) ≤ (n1) ∧ (n1) ≤ 65536 ∧ (a2) ≤ 200000) (h4 : 0 ≤ ((u0_3)) ∧ ((u0_3)) ≤ 11) (h5 : CEL ((w3))) (h6 : (n3) = 2048) (h7 : 0 ≤ (u2_1) ∧ (u2_1) ≤ (n4) ∧ (n4) ≤ 65536) (h8 : 0 ≤ (a4)) (h9 : CI GG ((u0_3))) (h10 : fl ((w3)) (p2 ((u0_3))) = (CELS GG ((u0_3))).map (clF GG)) (h11 : LKP ((w4)) ((u2_1)) ((n4)) AA) (k : ∀ (z : Int) (σ : rS) (F' : hF) (A' : hA), HW V110_Br_Row σ D N F' A' → OUT (V110_Br_Row).length D N σE c s D N σ c s → SF [(2, 1), (5, 0), (5, 1), (5, 2)] F F' → SA [4] A A' → ∀ y2_1 : Int, F' 2 1 = y2_1 → ∀ v4 : Int → Int, A' 4 = v4 → ((z) = 0 ∨ (z) = 1) → (0 ≤ (y2_1) ∧ (y2_1) ≤ (n4) ∧ (n4) ≤ 65536) → ((u2_1) ≤ (y2_1)) → (DCB (ub8 ((w1))) GG ((a2)) ((a3)) ((u0_3)) ((a4)) AA ((z)) ((v4)) ((y2_1)) ((n4))) → Q (some (I z)) σ c s) : Ew 110 (d + 2) 0 (rargs 0 [.ref (D 0), .ref (D 1), I a2, I a3, I a4, .ref (D 2)]) [] σE c s Q := by
  have O := OUT_refl (n := (V110_Br_Row).length) (D := D) (N := N) (σ := σE) (c := c) (s := s)
  have HE := H
  have r1 : (-2147483648 : Int) ≤ u0_3 ∧ u0_3 ≤ 2147483647 := by have h1 : (-2147483648 : Int) ≤ F 0 3 ∧ F 0 3 ≤ 2147483647 := H.krg 0 3 (by decide); rw [show F 0 3 = u0_3 from (eu0_3)] at h1; exact h1
  have r2 : (-2147483648 : Int) ≤ u2_1 ∧ u2_1 ≤ 2147483647 := by have h1 : (-2147483648 : Int) ≤ F 2 1 ∧ F 2 1 ≤ 2147483647 := H.krg 2 1 (by decide); rw [show F 2 1 = u2_1 from (eu2_1)] at h1; exact h1
  have r3 : (0 : Int) ≤ n1 ∧ n1 ≤ 1000000 := by have h1 := H.nle 1 (by decide); have h2 : (N 1 : Int) = n1 := en1; omega
  have r4 : (0 : Int) ≤ n3 ∧ n3 ≤ 1000000 := by have h1 := H.nle 3 (by decide); have h2 : (N 3 : Int) = n3 := en3; omega
  have r5 : (0 : Int) ≤ n4 ∧ n4 ≤ 1000000 := by have h1 := H.nle 4 (by decide); have h2 : (N 4 : Int) = n4 := en4; omega
  have hcel : CEL ((w3)) := by assumption
  have hcig : CI GG ((u0_3)) := by assumption
  have hceq : fl ((w3)) (p2 ((u0_3))) = (CELS GG ((u0_3))).map (clF GG) := by assumption
  refine Ew_of (pc' := 1) (fun _ => x_aload_n rfl rfl) ?_
  refine v_g H (o := 0) (v := .ref (D 5)) rfl rfl rfl rfl rfl (vrf (pf5)) ?_
  refine Ew_of (pc' := 5) (fun _ => x_aload_n rfl rfl) ?_
  refine Ew_of (pc' := 6) (fun _ => x_iload_n rfl rfl) ?_
  refine Ew_of (pc' := 7) (fun _ => x_iload_n rfl rfl) ?_
  have r6 : (-2147483648 : Int) ≤ F 5 1 ∧ F 5 1 ≤ 2147483647 := by have h1 : (-2147483648 : Int) ≤ F 5 1 ∧ F 5 1 ≤ 2147483647 := H.krg 5 1 (by decide); rw [show F 5 1 = F 5 1 from rfl] at h1; exact h1
  have r7 : (-2147483648 : Int) ≤ F 5 2 ∧ F 5 2 ≤ 2147483647 := by have h1 : (-2147483648 : Int) ≤ F 5 2 ∧ F 5 2 ≤ 2147483647 := H.krg 5 2 (by decide); rw [show F 5 2 = F 5 2 from rfl] at h1; exact h1
  refine v_inv H (o := 5) rfl rfl rfl rfl rfl rfl (by rfl) (C93_Br (D := pul [5, 1] D) (N := pul [5, 1] N) (HW_sub H (VS_of (show vsub V110_Br_Row V93_Br [5, 1] = true by decide +kernel))) (n1) (en1) (F 5 1) (rfl) (F 5 2) (rfl) (w1) (ew1) (show inr (a2) by omega) (show inr (a3) by omega) (show 0 ≤ (a2) ∧ (a3) ≤ (n1) ∧ (n1) ≤ 65536 ∧ 0 ≤ (a3) ∧ (a2) ≤ 200000 by omega) (fun z8 σ8 F8' A8' H' O' hS8 hA8 y8_0_1 ey8_0_1 y8_0_2 ey8_0_2 pq8_0 pz8_0 pz8_1 pz8_2 pz8_3 => ⟨rretB rfl pz8_0, ?_⟩))
  refine v_back (c := c) (s := s) H (show vsub V110_Br_Row V93_Br [5, 1] = true by decide +kernel) H' O' (fun F8 A8 H O' eF8 eA8 => ?_)
  have O := OUT_trans O O'
  -- BitSource.begin
  have pl8_0 : F8 5 0 = (D 1 : Int) := (eF8 5 0).trans (pq8_0)
  have r9 : (-2147483648 : Int) ≤ y8_0_1 ∧ y8_0_1 ≤ 2147483647 := by have h1 : (-2147483648 : Int) ≤ F8 5 1 ∧ F8 5 1 ≤ 2147483647 := H.krg 5 1 (by decide); rw [show F8 5 1 = y8_0_1 from ((eF8 5 1).trans ey8_0_1)] at h1; exact h1
  have r10 : (-2147483648 : Int) ≤ y8_0_2 ∧ y8_0_2 ≤ 2147483647 := by have h1 : (-2147483648 : Int) ≤ F8 5 2 ∧ F8 5 2 ≤ 2147483647 := H.krg 5 2 (by decide); rw [show F8 5 2 = y8_0_2 from ((eF8 5 2).trans ey8_0_2)] at h1; exact h1
  have hop := pz8_3
  refine w_ifne (t := 15) rfl rfl (show inr (z8) by omega) (fun b11 => ?_) (fun b11 => ?_)
  · have hop1 : OPS (ub8 ((w1))) ((a2)) ((a3)) 1 ((y8_0_2)) := by have h := hop; rw [show z8 = 1 by omega] at h; exact h
    refine Ew_of (pc' := 16) (fun _ => x_iconst rfl) ?_
    refine Ew_of (pc' := 18) (fun _ => x_istore rfl) ?_
    have : DCJ (ub8 ((w1))) GG ((a2)) ((a3)) ((u0_3)) ((a4)) AA 0 ((y8_0_2)) ((w4)) ((u2_1)) ((n4)) := DCJ_0 hop1 (by omega) (by assumption)
    suffices hl18 : ∀ (m : Nat), ∀ (ls : rO) (σ : rS) (F_18 : hF) (A_18 : hA) (x18_6 : Int), rlook ls 0 = some (.ref (D 0)) → rlook ls 4 = some (I (a4)) → rlook ls 5 = some (.ref (D 2)) → rlook ls 6 = some (I (x18_6)) → HW V110_Br_Row σ D N F_18 A_18 → OUT (V110_Br_Row).length D N σE c s D N σ c s → SF [(2, 1), (5, 2)] F8 F_18 → SA [4] A8 A_18 → ∀ y18_2_1 : Int, F_18 2 1 = y18_2_1 → ∀ y18_5_2 : Int, F_18 5 2 = y18_5_2 → ∀ w18_4 : Int → Int, A_18 4 = w18_4 → (inr (x18_6)) → ((0) ≤ (x18_6)) → ((x18_6) ≤ (0) ∨ (x18_6) ≤ ((a4))) → (0 ≤ (y18_2_1) ∧ (y18_2_1) ≤ (n4) ∧ (n4) ≤ 65536) → ((u2_1) ≤ (y18_2_1)) → (-11 ≤ (y18_5_2) ∧ (y18_5_2) ≤ 8 * ((n1) - (y8_0_1))) → ((y8_0_1) = (a2)) → (DCJ (ub8 ((w1))) GG ((a2)) ((a3)) ((u0_3)) ((a4)) AA ((x18_6)) ((y18_5_2)) ((w18_4)) ((y18_2_1)) ((n4))) → (((a4)) - (x18_6)).toNat = m → Ew 110 (d + 2) 18 ls [] σ c s Q from
      hl18 _ _ _ _ _ (0) (rk_o (rfl) rfl rfl) (rk_o (rfl) rfl rfl) (rk_o (rfl) rfl rfl) (rk_s) H O (SF_refl) (SA_refl)   (u2_1) ((((show F8 2 1 = F 2 1 from (eF8 2 1))).trans (eu2_1))) (y8_0_2) (((eF8 5 2).trans ey8_0_2)) (w4) (((show A8 4 = A 4 from (eA8 4))).trans (ew4)) (show inr (0) by omega) (show (0) ≤ (0) by omega) (show (0) ≤ (0) ∨ (0) ≤ ((a4)) by omega) (show 0 ≤ (u2_1) ∧ (u2_1) ≤ (n4) ∧ (n4) ≤ 65536 by omega) (show (u2_1) ≤ (u2_1) by omega) (show -11 ≤ (y8_0_2) ∧ (y8_0_2) ≤ 8 * ((n1) - (y8_0_1)) by omega) (show (y8_0_1) = (a2) by omega) (show DCJ (ub8 ((w1))) GG ((a2)) ((a3)) ((u0_3)) ((a4)) AA ((0)) ((y8_0_2)) ((w4)) ((u2_1)) ((n4)) by assumption) rfl
    as_aux_lemma =>
    intro m
    induction m using Nat.strongRecOn with
    | _ m ih18 =>
      intro ls σ F_18 A_18 x18_6 l18_0 l18_4 l18_5 l18_6 H O hS_18 hA_18   y18_2_1 ey18_2_1 y18_5_2 ey18_5_2 w18_4 ew18_4 j18_0 j18_1 j18_2 j18_3 j18_4 j18_5 j18_6 j18_7 hm18
      have r12 : (-2147483648 : Int) ≤ y18_2_1 ∧ y18_2_1 ≤ 2147483647 := by have h1 : (-2147483648 : Int) ≤ F_18 2 1 ∧ F_18 2 1 ≤ 2147483647 := H.krg 2 1 (by decide); rw [show F_18 2 1 = y18_2_1 from (ey18_2_1)] at h1; exact h1
      have r13 : (-2147483648 : Int) ≤ y18_5_2 ∧ y18_5_2 ≤ 2147483647 := by have h1 : (-2147483648 : Int) ≤ F_18 5 2 ∧ F_18 5 2 ≤ 2147483647 := H.krg 5 2 (by decide); rw [show F_18 5 2 = y18_5_2 from (ey18_5_2)] at h1; exact h1
      have j18_j : DCJ (ub8 ((w1))) GG ((a2)) ((a3)) ((u0_3)) ((a4)) AA ((x18_6)) ((y18_5_2)) ((w18_4)) ((y18_2_1)) ((n4)) := by assumption
      refine Ew_of (pc' := 20) (fun _ => x_iload rfl l18_6) ?_
      refine Ew_of (pc' := 22) (fun _ => x_iload rfl l18_4) ?_
      have hc112 : ∀ (ls : rO) (σ : rS) (F_c112 : hF) (A_c112 : hA) , rlook ls 0 = some (.ref (D 0)) → HW V110_Br_Row σ D N F_c112 A_c112 → OUT (V110_Br_Row).length D N σE c s D N σ c s → SF [] F_18 F_c112 → SA [] A_18 A_c112 → (((x18_6) ≥ (a4)) ∨ ((x18_6) < (a4) ∧ (y18_5_2) < (0))) → Ew 110 (d + 2) 112 ls [] σ c s Q := by
       as_aux_lemma =>
        intro  ls σ F_c112 A_c112  lc112_0 H O hS_c112 hA_c112     jc112_0
        refine Ew_of (pc' := 113) (fun _ => x_aload_n rfl lc112_0) ?_
        refine v_g H (o := 0) (v := .ref (D 5)) rfl rfl rfl rfl rfl (vrf (((((hS_c112 0 9 rfl).trans (hS_18 0 9 rfl)).trans ((show F8 0 9 = F 0 9 from (eF8 0 9))))).trans (pf5))) ?_
        refine v_g H (o := 5) (v := I (y18_5_2)) rfl rfl rfl rfl rfl (congrArg (fun z : Int => I z) (((hS_c112 5 2 rfl).trans (ey18_5_2)) : F_c112 5 2 = y18_5_2)) ?_
        refine w_ifne (t := 126) rfl rfl (show inr (y18_5_2) by omega) (fun b14 => ?_) (fun b14 => ?_)
        · refine Ew_of (pc' := 127) (fun _ => x_iconst rfl) ?_
          have : DCB (ub8 ((w1))) GG ((a2)) ((a3)) ((u0_3)) ((a4)) AA ((0)) ((w18_4)) ((y18_2_1)) ((n4)) := DCJ_e j18_j (by omega) (by omega)
          exact w_ireturn rfl (k (0) _ _ _ H O (SF_trans (SF_trans (SF_trans (SF_refl) (SF_glu (ι := [5, 1]) hS8 eF8 (by decide +kernel)) (any_sub (l' := [(5, 0), (5, 1), (5, 2)]) rfl)) hS_18 (any_sub rfl)) hS_c112 (any_sub rfl)) (SA_trans (SA_trans (SA_trans (SA_refl) (SA_glu (ι := [5, 1]) hA8 eA8 (by decide +kernel)) (any_subA (l' := []) rfl)) hA_18 (any_subA rfl)) hA_c112 (any_subA rfl)) (y18_2_1) (((hS_c112 2 1 rfl).trans (ey18_2_1))) (w18_4) ((funext (hA_c112 4 rfl)).trans (ew18_4)) (show (0) = 0 ∨ (0) = 1 by omega) (show 0 ≤ (y18_2_1) ∧ (y18_2_1) ≤ (n4) ∧ (n4) ≤ 65536 by omega) (show (u2_1) ≤ (y18_2_1) by omega) (show DCB (ub8 ((w1))) GG (a2) (a3) ((u0_3)) (a4) AA ((0)) ((w18_4)) ((y18_2_1)) ((n4)) by assumption))
        · refine Ew_of (pc' := 123) (fun _ => x_iconst rfl) ?_
          refine Ew_of (pc' := 127) (fun _ => x_goto rfl rfl) ?_
          have : DCB (ub8 ((w1))) GG ((a2)) ((a3)) ((u0_3)) ((a4)) AA ((1)) ((w18_4)) ((y18_2_1)) ((n4)) := DCJ_e j18_j (by omega) (by omega)
          exact w_ireturn rfl (k (1) _ _ _ H O (SF_trans (SF_trans (SF_trans (SF_refl) (SF_glu (ι := [5, 1]) hS8 eF8 (by decide +kernel)) (any_sub (l' := [(5, 0), (5, 1), (5, 2)]) rfl)) hS_18 (any_sub rfl)) hS_c112 (any_sub rfl)) (SA_trans (SA_trans (SA_trans (SA_refl) (SA_glu (ι := [5, 1]) hA8 eA8 (by decide +kernel)) (any_subA (l' := []) rfl)) hA_18 (any_subA rfl)) hA_c112 (any_subA rfl)) (y18_2_1) (((hS_c112 2 1 rfl).trans (ey18_2_1))) (w18_4) ((funext (hA_c112 4 rfl)).trans (ew18_4)) (show (1) = 0 ∨ (1) = 1 by omega) (show 0 ≤ (y18_2_1) ∧ (y18_2_1) ≤ (n4) ∧ (n4) ≤ 65536 by omega) (show (u2_1) ≤ (y18_2_1) by omega) (show DCB (ub8 ((w1))) GG (a2) (a3) ((u0_3)) (a4) AA ((1)) ((w18_4)) ((y18_2_1)) ((n4)) by assumption))
      refine w_icmpge (t := 112) rfl rfl (show inr (x18_6) by omega) (show inr (a4) by omega) (fun b15 => ?_) (fun b15 => ?_)
      · exact hc112  _ _ _ _  (l18_0) H O (SF_refl) (SA_refl)     (show ((x18_6) ≥ (a4)) ∨ ((x18_6) < (a4) ∧ (y18_5_2) < (0)) by omega)
      · refine Ew_of (pc' := 26) (fun _ => x_aload_n rfl l18_0) ?_
        refine v_g H (o := 0) (v := .ref (D 5)) rfl rfl rfl rfl rfl (vrf ((((hS_18 0 9 rfl).trans ((show F8 0 9 = F 0 9 from (eF8 0 9))))).trans (pf5))) ?_
        refine v_g H (o := 5) (v := I (y18_5_2)) rfl rfl rfl rfl rfl (congrArg (fun z : Int => I z) ((ey18_5_2) : F_18 5 2 = y18_5_2)) ?_
        refine w_iflt (t := 112) rfl rfl (show inr (y18_5_2) by omega) (fun b16 => ?_) (fun b16 => ?_)
        · exact hc112  _ _ _ _  (l18_0) H O (SF_refl) (SA_refl)     (show ((x18_6) ≥ (a4)) ∨ ((x18_6) < (a4) ∧ (y18_5_2) < (0)) by omega)
        · refine Ew_of (pc' := 36) (fun _ => x_aload_n rfl l18_0) ?_
          refine v_g H (o := 0) (v := .ref (D 3)) rfl rfl rfl rfl rfl (vrf ((((hS_18 0 2 rfl).trans ((show F8 0 2 = F 0 2 from (eF8 0 2))))).trans (pf3))) ?_
          refine Ew_of (pc' := 40) (fun _ => x_aload_n rfl l18_0) ?_
          refine v_g H (o := 0) (v := .ref (D 5)) rfl rfl rfl rfl rfl (vrf ((((hS_18 0 9 rfl).trans ((show F8 0 9 = F 0 9 from (eF8 0 9))))).trans (pf5))) ?_
          refine Ew_of (pc' := 44) (fun _ => x_aload_n rfl l18_0) ?_
          refine v_g H (o := 0) (v := I (u0_3)) rfl rfl rfl rfl rfl (congrArg (fun z : Int => I z) ((((hS_18 0 3 rfl).trans ((show F8 0 3 = F 0 3 from (eF8 0 3)))).trans (eu0_3)) : F_18 0 3 = u0_3)) ?_
          refine v_inv H (o := 5) rfl rfl rfl rfl rfl rfl (by rfl) (C94 (D := pul [5, 1] D) (N := pul [5, 1] N) (HW_sub H (VS_of (show vsub V110_Br_Row V94 [5, 1] = true by decide +kernel))) (((hS_18 5 0 rfl)).trans (pl8_0)) (n1) (en1) (y8_0_1) (((hS_18 5 1 rfl).trans ((eF8 5 1).trans ey8_0_1))) (y18_5_2) ((ey18_5_2)) (w1) ((funext (hA_18 1 rfl)).trans (((show A8 1 = A 1 from (eA8 1).trans (funext (hA8 1 rfl)))).trans (ew1))) (show inr (u0_3) by omega) (show 0 ≤ (u0_3) ∧ (u0_3) ≤ 31 by omega) (show 0 ≤ (y8_0_1) ∧ (y8_0_1) ≤ 65536 ∧ (y18_5_2) ≤ 8 * ((n1) - (y8_0_1)) ∧ (n1) ≤ 65536 by omega) (show -100 ≤ (y18_5_2) by omega) (fun z17 σ17 F17' A17' H' O' hS17 hA17 pz17_0 pz17_1 pz17_2 => ⟨rfl, ?_⟩))
          refine v_back (c := c) (s := s) H (show vsub V110_Br_Row V94 [5, 1] = true by decide +kernel) H' O' (fun F17 A17 H O' eF17 eA17 => ?_)
          have O := OUT_trans O O'
          -- BitSource.peek
          refine w_l2i rfl ?_
          have hpg : p2 ((u0_3)) ≤ p2 11 := p2_mono (by omega)
          have hp11 : p2 11 = 2048 := by decide
          refine v_lI H (o := 3) rfl rfl rfl rfl (n := n3) (en3) (show 0 ≤ z17 ∧ z17 < n3 by omega) (fun v18 ev18 qv18 => ?_)
          have ev18 : (w3) (z17) = v18 := (congrFun (((show A17 3 = A_18 3 from (eA17 3))).trans ((funext (hA_18 3 rfl)).trans (((show A8 3 = A 3 from (eA8 3))).trans (ew3)))) (z17)).symm.trans ev18
          have hcb := hcel (z17)
          rw [ev18] at hcb
          have hpk := pz17_2
          have hbg : 8 * (y8_0_1) = 8 * (a2) := by omega
          rw [hbg] at hpk
          have hcx := CEM_at hceq (c := z17) (by omega) (by omega)
          rw [ev18] at hcx
          refine Ew_of (pc' := 54) (fun _ => x_istore rfl) ?_
          have hc89 : ∀ (ls : rO) (σ : rS) (F_c89 : hF) (A_c89 : hA) , rlook ls 0 = some (.ref (D 0)) → rlook ls 4 = some (I (a4)) → rlook ls 5 = some (.ref (D 2)) → rlook ls 6 = some (I (x18_6)) → rlook ls 7 = some (I (v18)) → HW V110_Br_Row σ D N F_c89 A_c89 → OUT (V110_Br_Row).length D N σE c s D N σ c s → SF [(2, 1)] F17 F_c89 → SA [4] A17 A_c89 → ∀ yc89_2_1 : Int, F_c89 2 1 = yc89_2_1 → ∀ wc89_4 : Int → Int, A_c89 4 = wc89_4 → (0 ≤ (yc89_2_1) ∧ (yc89_2_1) ≤ (n4) ∧ (n4) ≤ 65536) → ((u2_1) ≤ (yc89_2_1)) → (DCJ (ub8 ((w1))) GG ((a2)) ((a3)) ((u0_3)) ((a4)) AA ((x18_6) + 1) ((y18_5_2) - (v18) / 256) ((wc89_4)) ((yc89_2_1)) ((n4))) → Ew 110 (d + 2) 89 ls [] σ c s Q := by
           as_aux_lemma =>
            intro  ls σ F_c89 A_c89  lc89_0 lc89_4 lc89_5 lc89_6 lc89_7 H O hS_c89 hA_c89   yc89_2_1 eyc89_2_1 wc89_4 ewc89_4 jc89_0 jc89_1 jc89_2
            have r19 : (-2147483648 : Int) ≤ yc89_2_1 ∧ yc89_2_1 ≤ 2147483647 := by have h1 : (-2147483648 : Int) ≤ F_c89 2 1 ∧ F_c89 2 1 ≤ 2147483647 := H.krg 2 1 (by decide); rw [show F_c89 2 1 = yc89_2_1 from (eyc89_2_1)] at h1; exact h1
            have k89 : DCJ (ub8 ((w1))) GG ((a2)) ((a3)) ((u0_3)) ((a4)) AA ((x18_6) + 1) ((y18_5_2) - (v18) / 256) ((wc89_4)) ((yc89_2_1)) ((n4)) := by assumption
            obtain ⟨ql, hql⟩ : ∃ q : Int, q = (y18_5_2) - (v18) / 256 := ⟨_, rfl⟩
            rw [← hql] at k89
            refine Ew_of (pc' := 90) (fun _ => x_aload_n rfl lc89_0) ?_
            refine v_g H (o := 0) (v := .ref (D 5)) rfl rfl rfl rfl rfl (vrf ((((((hS_c89 0 9 rfl).trans ((show F17 0 9 = F_18 0 9 from (eF17 0 9)))).trans (hS_18 0 9 rfl)).trans ((show F8 0 9 = F 0 9 from (eF8 0 9))))).trans (pf5))) ?_
            refine Ew_of (pc' := 94) (fun _ => x_dup rfl rfl) ?_
            refine v_g H (o := 5) (v := I (y18_5_2)) rfl rfl rfl rfl rfl (congrArg (fun z : Int => I z) ((((hS_c89 5 2 rfl).trans ((show F17 5 2 = F_18 5 2 from (eF17 5 2).trans (hS17 0 2 rfl)))).trans (ey18_5_2)) : F_c89 5 2 = y18_5_2)) ?_
            refine Ew_of (pc' := 99) (fun _ => x_iload rfl lc89_7) ?_
            refine Ew_of (pc' := 101) (fun _ => x_bipush (z := 8) rfl (by decide)) ?_
            refine w_ishrK 8 256 (by decide) (by decide) rfl (show inr (v18) by omega) (fun z20 gz20 dz20 => ?_)
            refine w_isub rfl ?_
            refine v_p H (o := 5) (z := (y18_5_2 - z20)) (v := I ((y18_5_2 - z20))) rfl rfl rfl rfl rfl rfl rfl rfl (show (-2147483648 : Int) ≤ (y18_5_2 - z20) ∧ (y18_5_2 - z20) ≤ 2147483647 by omega) (fun σ H O' => ?_)
            have O := OUT_trans O O'
            refine Ew_of (pc' := 109) (fun _ => x_iinc (len := 3) rfl (lc89_6)) ?_
            refine Ew_of (pc' := 18) (fun _ => x_goto rfl rfl) ?_
            have : DCJ (ub8 ((w1))) GG ((a2)) ((a3)) ((u0_3)) ((a4)) AA (((x18_6 + 1))) (((y18_5_2 - z20))) ((wc89_4)) ((yc89_2_1)) ((n4)) := by have h := k89; rw [show ql = ((y18_5_2 - z20)) by omega] at h; exact h
            exact ih18 _ (by omega) _ _ _ _ ((x18_6 + 1)) (rk_o (lc89_0) rfl rfl) (rk_o (lc89_4) rfl rfl) (rk_o (lc89_5) rfl rfl) (rk_s) H O (SF_upd (SF_trans (SF_trans (hS_18) (SF_glu (ι := [5, 1]) hS17 eF17 (by decide +kernel)) (any_sub (l' := []) rfl)) hS_c89 (any_sub rfl)) rfl) (SA_trans (SA_trans (hA_18) (SA_glu (ι := [5, 1]) hA17 eA17 (by decide +kernel)) (any_subA (l' := []) rfl)) hA_c89 (any_subA rfl))   (yc89_2_1) ((eyc89_2_1)) ((y18_5_2 - z20)) (rfl) (wc89_4) (ewc89_4) (show inr ((x18_6 + 1)) by omega) (show (0) ≤ ((x18_6 + 1)) by omega) (show ((x18_6 + 1)) ≤ (0) ∨ ((x18_6 + 1)) ≤ ((a4)) by omega) (show 0 ≤ (yc89_2_1) ∧ (yc89_2_1) ≤ (n4) ∧ (n4) ≤ 65536 by omega) (show (u2_1) ≤ (yc89_2_1) by omega) (show -11 ≤ ((y18_5_2 - z20)) ∧ ((y18_5_2 - z20)) ≤ 8 * ((n1) - (y8_0_1)) by omega) (show (y8_0_1) = (a2) by omega) (show DCJ (ub8 ((w1))) GG ((a2)) ((a3)) ((u0_3)) ((a4)) AA (((x18_6 + 1))) (((y18_5_2 - z20))) ((wc89_4)) ((yc89_2_1)) ((n4)) by assumption) rfl
          refine Ew_of (pc' := 56) (fun _ => x_aload rfl (rk_o (l18_5) rfl rfl)) ?_
          refine v_g H (o := 2) (v := I (y18_2_1)) rfl rfl rfl rfl rfl (congrArg (fun z : Int => I z) ((((show F17 2 1 = F_18 2 1 from (eF17 2 1))).trans (ey18_2_1)) : F17 2 1 = y18_2_1)) ?_
          refine Ew_of (pc' := 61) (fun _ => x_aload rfl (rk_o (l18_5) rfl rfl)) ?_
          refine v_g H (o := 2) (v := .ref (D 4)) rfl rfl rfl rfl rfl (vrf ((((((show F17 2 0 = F_18 2 0 from (eF17 2 0))).trans (hS_18 2 0 rfl)).trans ((show F8 2 0 = F 2 0 from (eF8 2 0))))).trans (pf4))) ?_
          refine v_len H (o := 4) rfl rfl rfl rfl (n := n4) (en4) ?_
          refine w_icmpge (t := 89) rfl rfl (show inr (y18_2_1) by omega) (show inr (n4) by omega) (fun b21 => ?_) (fun b21 => ?_)
          · have : DCJ (ub8 ((w1))) GG ((a2)) ((a3)) ((u0_3)) ((a4)) AA ((x18_6) + 1) ((y18_5_2) - (v18) / 256) ((w18_4)) ((y18_2_1)) ((n4)) := by first | exact DCJ_s (v := (0 : Int)) j18_j (by omega) (by omega) hpk hcx.1 hcx.2 rfl (.inr ⟨by omega, rfl, rfl⟩) rfl | exact DCJ_s j18_j (by omega) (by omega) hpk hcx.1 hcx.2 rfl (.inl ⟨by omega, (uzMISS).trans hub, rfl, rfl⟩) rfl | exact DCJ_s j18_j (by omega) (by omega) hpk hcx.1 hcx.2 rfl (.inl ⟨by omega, hub, rfl, rfl⟩) rfl
            exact hc89  _ _ _ _  (rk_o (l18_0) rfl rfl) (rk_o (l18_4) rfl rfl) (rk_o (l18_5) rfl rfl) (rk_o (l18_6) rfl rfl) (rk_s) H O (SF_refl) (SA_refl)   (y18_2_1) ((((show F17 2 1 = F_18 2 1 from (eF17 2 1))).trans (ey18_2_1))) (w18_4) (((show A17 4 = A_18 4 from (eA17 4))).trans (ew18_4)) (show 0 ≤ (y18_2_1) ∧ (y18_2_1) ≤ (n4) ∧ (n4) ≤ 65536 by omega) (show (u2_1) ≤ (y18_2_1) by omega) (show DCJ (ub8 ((w1))) GG ((a2)) ((a3)) ((u0_3)) ((a4)) AA ((x18_6) + 1) ((y18_5_2) - (v18) / 256) ((w18_4)) ((y18_2_1)) ((n4)) by assumption)
          · refine Ew_of (pc' := 70) (fun _ => x_aload rfl (rk_o (l18_5) rfl rfl)) ?_
            refine v_g H (o := 2) (v := .ref (D 4)) rfl rfl rfl rfl rfl (vrf ((((((show F17 2 0 = F_18 2 0 from (eF17 2 0))).trans (hS_18 2 0 rfl)).trans ((show F8 2 0 = F 2 0 from (eF8 2 0))))).trans (pf4))) ?_
            refine Ew_of (pc' := 75) (fun _ => x_aload rfl (rk_o (l18_5) rfl rfl)) ?_
            refine Ew_of (pc' := 76) (fun _ => x_dup rfl rfl) ?_
            refine v_g H (o := 2) (v := I (y18_2_1)) rfl rfl rfl rfl rfl (congrArg (fun z : Int => I z) ((((show F17 2 1 = F_18 2 1 from (eF17 2 1))).trans (ey18_2_1)) : F17 2 1 = y18_2_1)) ?_
            refine Ew_of (pc' := 80) (fun _ => x_dup_x1 rfl rfl) ?_
            refine Ew_of (pc' := 81) (fun _ => x_iconst rfl) ?_
            refine w_iadd rfl ?_
            refine v_p H (o := 2) (z := (y18_2_1 + 1)) (v := I ((y18_2_1 + 1))) rfl rfl rfl rfl rfl rfl rfl rfl (show (-2147483648 : Int) ≤ (y18_2_1 + 1) ∧ (y18_2_1 + 1) ≤ 2147483647 by omega) (fun σ H O' => ?_)
            have O := OUT_trans O O'
            refine Ew_of (pc' := 87) (fun _ => x_iload rfl rk_s) ?_
            refine v_i2b rfl (fun z22 gz22 uz22 => ?_)
            have hub := uz22
            refine v_sB H (o := 4) rfl rfl rfl rfl (n := n4) (en4) (show 0 ≤ y18_2_1 ∧ y18_2_1 < n4 by omega) (fun z23 σ qz23 uz23 H O' => ?_)
            have O := OUT_trans O O'
            have : DCJ (ub8 ((w1))) GG ((a2)) ((a3)) ((u0_3)) ((a4)) AA ((x18_6) + 1) ((y18_5_2) - (v18) / 256) ((upd1 (w18_4) (y18_2_1) (z23))) (((y18_2_1 + 1))) ((n4)) := by first | exact DCJ_s (v := (0 : Int)) j18_j (by omega) (by omega) hpk hcx.1 hcx.2 rfl (.inr ⟨by omega, rfl, rfl⟩) rfl | exact DCJ_s j18_j (by omega) (by omega) hpk hcx.1 hcx.2 rfl (.inl ⟨by omega, (uz23).trans hub, rfl, rfl⟩) rfl | exact DCJ_s j18_j (by omega) (by omega) hpk hcx.1 hcx.2 rfl (.inl ⟨by omega, hub, rfl, rfl⟩) rfl
            exact hc89  _ _ _ _  (rk_o (l18_0) rfl rfl) (rk_o (l18_4) rfl rfl) (rk_o (l18_5) rfl rfl) (rk_o (l18_6) rfl rfl) (rk_s) H O (SF_upd (SF_refl) rfl) (SA_upd (SA_refl) rfl)   ((y18_2_1 + 1)) (rfl) (upd1 (w18_4) (y18_2_1) (z23)) (congrArg (fun q => upd1 q (y18_2_1) (z23)) (((show A17 4 = A_18 4 from (eA17 4))).trans (ew18_4))) (show 0 ≤ ((y18_2_1 + 1)) ∧ ((y18_2_1 + 1)) ≤ (n4) ∧ (n4) ≤ 65536 by omega) (show (u2_1) ≤ ((y18_2_1 + 1)) by omega) (show DCJ (ub8 ((w1))) GG ((a2)) ((a3)) ((u0_3)) ((a4)) AA ((x18_6) + 1) ((y18_5_2) - (v18) / 256) ((upd1 (w18_4) (y18_2_1) (z23))) (((y18_2_1 + 1))) ((n4)) by assumption)
  · refine Ew_of (pc' := 14) (fun _ => x_iconst rfl) ?_
    have : DCB (ub8 ((w1))) GG ((a2)) ((a3)) ((u0_3)) ((a4)) AA ((0)) ((w4)) ((u2_1)) ((n4)) := DCB_n hop (by omega) (by omega)
    exact w_ireturn rfl (k (0) _ _ _ H O (SF_trans (SF_refl) (SF_glu (ι := [5, 1]) hS8 eF8 (by decide +kernel)) (any_sub (l' := [(5, 0), (5, 1), (5, 2)]) rfl)) (SA_trans (SA_refl) (SA_glu (ι := [5, 1]) hA8 eA8 (by decide +kernel)) (any_subA (l' := []) rfl)) (u2_1) ((((show F8 2 1 = F 2 1 from (eF8 2 1))).trans (eu2_1))) (w4) (((show A8 4 = A 4 from (eA8 4))).trans (ew4)) (show (0) = 0 ∨ (0) = 1 by omega) (show 0 ≤ (u2_1) ∧ (u2_1) ≤ (n4) ∧ (n4) ≤ 65536 by omega) (show (u2_1) ≤ (u2_1) by omega) (show DCB (ub8 ((w1))) GG (a2) (a3) ((u0_3)) (a4) AA ((0)) ((w4)) ((u2_1)) ((n4)) by assumption))
abbrev V112_Br : vV := [(0, 3, [(4, 0), (4, 0), (4, 0), (0, 0), (4, 0), (4, 0), (4, 0), (4, 0), (4, 0), (4, 0), (4, 0), (4, 0), (4, 0), (0, 0), (0, 0), (0, 0), (0, 0)]), (1, 0, []), (1, 1, [])]
/-- Codes.packedSize: this, #1, this.lengths -/
theorem C112_Br {σE : rS} {D N : Nat → Nat} {F : hF} {A : hA} {d c s : Nat} {Q : wQ} (H : HW V112_Br σE D N F A) {a2 a3 : Int} (pf2 : F 0 0 = (D 2 : Int)) (n1 : Int) (en1 : (N 1 : Int) = n1) (n2 : Int) (en2 : (N 2 : Int) = n2) (u0_3 : Int) (eu0_3 : F 0 3 = u0_3) (w1 : Int → Int) (ew1 : A 1 = w1) (w2 : Int → Int) (ew2 : A 2 = w2) (h0 : inr (a2)) (h1 : inr (a3)) (h2 : 0 ≤ (a2) ∧ (a2) ≤ (a3) ∧ (a3) ≤ (n1) ∧ (n1) ≤ 65536) (h3 : 0 ≤ ((u0_3)) ∧ ((u0_3)) ≤ 11) (h4 : LNG ((w2)) ((u0_3))) (h5 : (n2) = 256) (k : ∀ (z : Int) (σ : rS) (F' : hF) (A' : hA), HW V112_Br σ D N F' A' → OUT (V112_Br).length D N σE c s D N σ c s → SF [] F F' → SA [] A A' → (inr (z)) → (0 ≤ (z) ∧ (z) ≤ 100000) → (PSZ ((w2)) (ub8 ((w1))) ((a2)) ((a3)) ((z))) → Q (some (I z)) σ c s) : Ew 112 (d + 0) 0 (rargs 0 [.ref (D 0), .ref (D 1), I a2, I a3]) [] σE c s Q := by
  have O := OUT_refl (n := (V112_Br).length) (D := D) (N := N) (σ := σE) (c := c) (s := s)
  have HE := H
  have r1 : (-2147483648 : Int) ≤ u0_3 ∧ u0_3 ≤ 2147483647 := by have h1 : (-2147483648 : Int) ≤ F 0 3 ∧ F 0 3 ≤ 2147483647 := H.krg 0 3 (by decide); rw [show F 0 3 = u0_3 from (eu0_3)] at h1; exact h1
  have r2 : (0 : Int) ≤ n1 ∧ n1 ≤ 1000000 := by have h1 := H.nle 1 (by decide); have h2 : (N 1 : Int) = n1 := en1; omega
  have r3 : (0 : Int) ≤ n2 ∧ n2 ≤ 1000000 := by have h1 := H.nle 2 (by decide); have h2 : (N 2 : Int) = n2 := en2; omega
  have hln : LNG ((w2)) ((u0_3)) := by assumption
  refine Ew_of (pc' := 1) (fun _ => x_iconst rfl) ?_
  refine Ew_of (pc' := 3) (fun _ => x_istore rfl) ?_
  refine Ew_of (pc' := 4) (fun _ => x_iload_n rfl (rk_o (rfl) rfl rfl)) ?_
  refine Ew_of (pc' := 6) (fun _ => x_istore rfl) ?_
  have : (0 : Int) = szF ((w2)) (ub8 ((w1))) ((a2)) ((a2) - (a2) : Int).toNat := (szF_0 (by omega)).symm
  have : ∀ k, (a2) ≤ k → k < (a2) → ((w2)) ((ub8 ((w1))) k) ≠ 0 := fun k a b => absurd b (by omega)
  suffices hl6 : ∀ (m : Nat), ∀ (ls : rO) (σ : rS) (F_6 : hF) (A_6 : hA) (x6_4 : Int) (x6_5 : Int), rlook ls 0 = some (.ref (D 0)) → rlook ls 1 = some (.ref (D 1)) → rlook ls 3 = some (I (a3)) → rlook ls 4 = some (I (x6_4)) → rlook ls 5 = some (I (x6_5)) → HW V112_Br σ D N F_6 A_6 → OUT (V112_Br).length D N σE c s D N σ c s → SF [] F F_6 → SA [] A A_6 → (inr (x6_4)) → (inr (x6_5)) → ((a2) ≤ (x6_5)) → ((x6_5) ≤ (a2) ∨ (x6_5) ≤ ((a3))) → (0 ≤ (x6_4) ∧ (x6_4) ≤ 11 * ((x6_5) - (a2))) → ((x6_4) = szF ((w2)) (ub8 ((w1))) ((a2)) ((x6_5) - (a2) : Int).toNat) → (∀ k, (a2) ≤ k → k < (x6_5) → ((w2)) ((ub8 ((w1))) k) ≠ 0) → (((a3)) - (x6_5)).toNat = m → Ew 112 (d + 0) 6 ls [] σ c s Q from
    hl6 _ _ _ _ _ (0) (a2) (rk_o (rk_o (rfl) rfl rfl) rfl rfl) (rk_o (rk_o (rfl) rfl rfl) rfl rfl) (rk_o (rk_o (rfl) rfl rfl) rfl rfl) (rk_o (rk_s) rfl rfl) (rk_s) H O (SF_refl) (SA_refl)     (show inr (0) by omega) (show inr (a2) by omega) (show (a2) ≤ (a2) by omega) (show (a2) ≤ (a2) ∨ (a2) ≤ ((a3)) by omega) (show 0 ≤ (0) ∧ (0) ≤ 11 * ((a2) - (a2)) by omega) (show (0) = szF ((w2)) (ub8 ((w1))) ((a2)) ((a2) - (a2) : Int).toNat by assumption) (show ∀ k, (a2) ≤ k → k < (a2) → ((w2)) ((ub8 ((w1))) k) ≠ 0 by assumption) rfl
  as_aux_lemma =>
  intro m
  induction m using Nat.strongRecOn with
  | _ m ih6 =>
    intro ls σ F_6 A_6 x6_4 x6_5 l6_0 l6_1 l6_3 l6_4 l6_5 H O hS_6 hA_6     j6_0 j6_1 j6_2 j6_3 j6_4 j6_5 j6_6 hm6
    have j6_s : (x6_4) = szF ((w2)) (ub8 ((w1))) ((a2)) ((x6_5) - (a2) : Int).toNat := by assumption
    have j6_c : ∀ k, (a2) ≤ k → k < (x6_5) → ((w2)) ((ub8 ((w1))) k) ≠ 0 := by assumption
    refine Ew_of (pc' := 8) (fun _ => x_iload rfl l6_5) ?_
    refine Ew_of (pc' := 9) (fun _ => x_iload_n rfl l6_3) ?_
    refine w_icmpge (t := 47) rfl rfl (show inr (x6_5) by omega) (show inr (a3) by omega) (fun b4 => ?_) (fun b4 => ?_)
    · refine Ew_of (pc' := 49) (fun _ => x_iload rfl l6_4) ?_
      refine Ew_of (pc' := 51) (fun _ => x_bipush (z := 8) rfl (by decide)) ?_
      refine w_idiv rfl (show inr (x6_4) ∧ 0 ≤ x6_4 by omega) (show inr (8) ∧ 0 < 8 by omega) ?_
      refine Ew_of (pc' := 53) (fun _ => x_iconst rfl) ?_
      refine w_iadd rfl ?_
      have : PSZ ((w2)) (ub8 ((w1))) ((a2)) ((a3)) ((((x6_4 / 8) + 1))) := .inr ⟨by rw [show ((a3) : Int) = (x6_5) by omega, ← j6_s], fun k a b => j6_c k a (by omega)⟩
      exact w_ireturn rfl (k (((x6_4 / 8) + 1)) _ _ _ H O (SF_trans (SF_refl) hS_6 (any_sub rfl)) (SA_trans (SA_refl) hA_6 (any_subA rfl)) (show inr (((x6_4 / 8) + 1)) by omega) (show 0 ≤ (((x6_4 / 8) + 1)) ∧ (((x6_4 / 8) + 1)) ≤ 100000 by omega) (show PSZ ((w2)) (ub8 ((w1))) (a2) (a3) ((((x6_4 / 8) + 1))) by assumption))
    · obtain ⟨ql5, hql5⟩ : ∃ q : Int, q = (x6_5) := ⟨_, rfl⟩
      refine Ew_of (pc' := 13) (fun _ => x_aload_n rfl l6_0) ?_
      refine v_g H (o := 0) (v := .ref (D 2)) rfl rfl rfl rfl rfl (vrf (((hS_6 0 0 rfl)).trans (pf2))) ?_
      refine Ew_of (pc' := 17) (fun _ => x_aload_n rfl l6_1) ?_
      refine Ew_of (pc' := 19) (fun _ => x_iload rfl l6_5) ?_
      refine v_lB H (o := 1) rfl rfl rfl rfl (n := n1) (en1) (show 0 ≤ x6_5 ∧ x6_5 < n1 by omega) (fun v5 ev5 qv5 => ?_)
      have ev5 : (w1) (x6_5) = v5 := (congrFun ((funext (hA_6 1 rfl)).trans (ew1)) (x6_5)).symm.trans ev5
      have he20 := ev5
      refine Ew_of (pc' := 23) (fun _ => x_sipush (z := 255) rfl (by decide)) ?_
      refine v_and255 rfl ?_
      have hlb := hln (((v5 % 256))) (by omega) (by omega)
      have hu24 : (ub8 ((w1))) ql5 = ((v5 % 256)) := by rw [hql5]; show u8 (((w1)) ((x6_5))) = ((v5 % 256)); rw [he20]; unfold u8; omega
      refine v_lI H (o := 2) rfl rfl rfl rfl (n := n2) (en2) (show 0 ≤ (v5 % 256) ∧ (v5 % 256) < n2 by omega) (fun v6 ev6 qv6 => ?_)
      have ev6 : (w2) ((v5 % 256)) = v6 := (congrFun ((funext (hA_6 2 rfl)).trans (ew2)) ((v5 % 256))).symm.trans ev6
      rw [ev6] at hlb
      have hv25 : ((w2)) ((ub8 ((w1))) ql5) = (v6) := by rw [hu24]; exact ev6
      refine Ew_of (pc' := 27) (fun _ => x_istore rfl) ?_
      refine Ew_of (pc' := 29) (fun _ => x_iload rfl rk_s) ?_
      refine w_ifne (t := 34) rfl rfl (show inr (v6) by omega) (fun b7 => ?_) (fun b7 => ?_)
      · refine Ew_of (pc' := 36) (fun _ => x_iload rfl (rk_o (l6_4) rfl rfl)) ?_
        refine Ew_of (pc' := 38) (fun _ => x_iload rfl rk_s) ?_
        refine w_iadd rfl ?_
        refine Ew_of (pc' := 41) (fun _ => x_istore rfl) ?_
        refine Ew_of (pc' := 44) (fun _ => x_iinc (len := 3) rfl (rk_o (rk_o (l6_5) rfl rfl) rfl rfl)) ?_
        refine Ew_of (pc' := 6) (fun _ => x_goto rfl rfl) ?_
        have : ((x6_4 + v6)) = szF ((w2)) (ub8 ((w1))) ((a2)) (((x6_5 + 1)) - (a2) : Int).toNat := by rw [szF_s (n := ql5 - (a2)) (i := ql5) (by omega) (by omega) (by omega) hv25, hql5, ← j6_s]
        have : ∀ k, (a2) ≤ k → k < ((x6_5 + 1)) → ((w2)) ((ub8 ((w1))) k) ≠ 0 := fun k a b => by by_cases q : k = ql5; (rw [q, hv25]; omega); exact j6_c k a (by omega)
        exact ih6 _ (by omega) _ _ _ _ ((x6_4 + v6)) ((x6_5 + 1)) (rk_o (rk_o (rk_o (l6_0) rfl rfl) rfl rfl) rfl rfl) (rk_o (rk_o (rk_o (l6_1) rfl rfl) rfl rfl) rfl rfl) (rk_o (rk_o (rk_o (l6_3) rfl rfl) rfl rfl) rfl rfl) (rk_o (rk_s) rfl rfl) (rk_s) H O (hS_6) (hA_6)     (show inr ((x6_4 + v6)) by omega) (show inr ((x6_5 + 1)) by omega) (show (a2) ≤ ((x6_5 + 1)) by omega) (show ((x6_5 + 1)) ≤ (a2) ∨ ((x6_5 + 1)) ≤ ((a3)) by omega) (show 0 ≤ ((x6_4 + v6)) ∧ ((x6_4 + v6)) ≤ 11 * (((x6_5 + 1)) - (a2)) by omega) (show ((x6_4 + v6)) = szF ((w2)) (ub8 ((w1))) ((a2)) (((x6_5 + 1)) - (a2) : Int).toNat by assumption) (show ∀ k, (a2) ≤ k → k < ((x6_5 + 1)) → ((w2)) ((ub8 ((w1))) k) ≠ 0 by assumption) rfl
      · refine Ew_of (pc' := 33) (fun _ => x_iconst rfl) ?_
        have : PSZ ((w2)) (ub8 ((w1))) ((a2)) ((a3)) 0 := .inl ⟨rfl, ql5, by omega, by omega, by rw [hv25]; omega⟩
        exact w_ireturn rfl (k (0) _ _ _ H O (SF_trans (SF_refl) hS_6 (any_sub rfl)) (SA_trans (SA_refl) hA_6 (any_subA rfl)) (show inr (0) by omega) (show 0 ≤ (0) ∧ (0) ≤ 100000 by omega) (show PSZ ((w2)) (ub8 ((w1))) (a2) (a3) ((0)) by assumption))
abbrev V111_Row_Br : vV := [(0, 3, [(4, 0), (4, 0), (4, 0), (0, 0), (4, 0), (4, 0), (4, 0), (4, 0), (4, 0), (4, 0), (4, 0), (4, 0), (4, 0), (0, 0), (0, 0), (0, 0), (0, 0)]), (0, 7, [(4, 0), (0, 0), (1, 0), (0, 0), (0, 0)]), (1, 0, []), (1, 0, []), (1, 1, []), (1, 1, []), (1, 1, [])]
/-- Codes.pack: this, #1, #2, #1.bytes, this.lengths, this.codes, this.cells -/
theorem C111_Row_Br {σE : rS} {D N : Nat → Nat} {F : hF} {A : hA} {d c s : Nat} {Q : wQ} (H : HW V111_Row_Br σE D N F A) {a3 a4 : Int} (pf3 : F 1 0 = (D 3 : Int)) (pf4 : F 0 0 = (D 4 : Int)) (pf5 : F 0 1 = (D 5 : Int)) (pf6 : F 0 2 = (D 6 : Int)) (n2 : Int) (en2 : (N 2 : Int) = n2) (n3 : Int) (en3 : (N 3 : Int) = n3) (n4 : Int) (en4 : (N 4 : Int) = n4) (n5 : Int) (en5 : (N 5 : Int) = n5) (n6 : Int) (en6 : (N 6 : Int) = n6) (u0_3 : Int) (eu0_3 : F 0 3 = u0_3) (u1_1 : Int) (eu1_1 : F 1 1 = u1_1) (u1_2 : Int) (eu1_2 : F 1 2 = u1_2) (u1_3 : Int) (eu1_3 : F 1 3 = u1_3) (u1_4 : Int) (eu1_4 : F 1 4 = u1_4) (w2 : Int → Int) (ew2 : A 2 = w2) (w3 : Int → Int) (ew3 : A 3 = w3) (w4 : Int → Int) (ew4 : A 4 = w4) (w5 : Int → Int) (ew5 : A 5 = w5) (w6 : Int → Int) (ew6 : A 6 = w6) (h0 : inr (a3)) (h1 : inr (a4)) (h2 : 0 ≤ (u1_1) ∧ (u1_1) ≤ (n3) ∧ (n3) ≤ 65536) (h3 : 0 ≤ (u1_4) ∧ (u1_4) ≤ 7) (h4 : 0 ≤ (a3) ∧ (a3) ≤ (a4) ∧ (a4) ≤ (n2) ∧ (n2) ≤ 65536) (h5 : 0 ≤ ((u0_3)) ∧ ((u0_3)) ≤ 11) (h6 : LNG ((w4)) ((u0_3))) (h7 : (n4) = 256 ∧ (n5) = 256) (h8 : (u1_4) = 0 ∧ (u1_3) = 0 ∧ (u1_2) = 0 ∧ (u1_1) + 2 * ((a4) - (a3)) + 2 ≤ 65536) (h9 : CI ((w4)) ((u0_3))) (h10 : CDX ((w4)) ((u0_3)) ((w6)) ((w5))) (h11 : ∀ k, (a3) ≤ k → k < (a4) → ((w4)) ((ub8 ((w2))) k) ≠ 0) (k : ∀ (σ : rS) (D' N' : Nat → Nat) (F' : hF) (A' : hA) (c' s' : Nat), HW V111_Row_Br σ D' N' F' A' → OUT (V111_Row_Br).length D N σE c s D' N' σ c' s' → SD [3] D D' → SD [3] N N' → SF [(1, 0), (1, 1), (1, 2), (1, 3), (1, 4)] F F' → SA [3] A A' → F' 1 0 = (D' 3 : Int) → ∀ m3 : Int, (N' 3 : Int) = m3 → ∀ y1_1 : Int, F' 1 1 = y1_1 → ∀ y1_2 : Int, F' 1 2 = y1_2 → ∀ y1_3 : Int, F' 1 3 = y1_3 → ∀ y1_4 : Int, F' 1 4 = y1_4 → ∀ v3 : Int → Int, A' 3 = v3 → (0 ≤ (y1_1) ∧ (y1_1) ≤ (m3) ∧ (m3) ≤ 65536) → ((y1_4) = 0) → ((u1_1) ≤ (y1_1)) → ((y1_3) = 0 ∧ (y1_2) = 0) → (sc ((v3)) 0 ((y1_1)) = sc ((w3)) 0 ((u1_1)) ++ byw (stm ((w4)) ((u0_3)) (ub8 ((w2))) ((a3)) ((a4)))) → (8 * (y1_1) ≤ 8 * (u1_1) + 11 * ((a4) - (a3)) + 16) → Q none σ c' s') : Ew 111 (d + 2) 0 (rargs 0 [.ref (D 0), .ref (D 1), .ref (D 2), I a3, I a4]) [] σE c s Q := by
  have O := OUT_refl (n := (V111_Row_Br).length) (D := D) (N := N) (σ := σE) (c := c) (s := s)
  have HE := H
  have r1 : (-2147483648 : Int) ≤ u0_3 ∧ u0_3 ≤ 2147483647 := by have h1 : (-2147483648 : Int) ≤ F 0 3 ∧ F 0 3 ≤ 2147483647 := H.krg 0 3 (by decide); rw [show F 0 3 = u0_3 from (eu0_3)] at h1; exact h1
  have r2 : (-2147483648 : Int) ≤ u1_1 ∧ u1_1 ≤ 2147483647 := by have h1 : (-2147483648 : Int) ≤ F 1 1 ∧ F 1 1 ≤ 2147483647 := H.krg 1 1 (by decide); rw [show F 1 1 = u1_1 from (eu1_1)] at h1; exact h1
  have r3 : (0 : Int) ≤ u1_2 ∧ u1_2 ≤ 1 := by have h1 : (0 : Int) ≤ F 1 2 ∧ F 1 2 ≤ 1 := H.krg 1 2 (by decide); rw [show F 1 2 = u1_2 from (eu1_2)] at h1; exact h1
  have r4 : (-2147483648 : Int) ≤ u1_3 ∧ u1_3 ≤ 2147483647 := by have h1 : (-2147483648 : Int) ≤ F 1 3 ∧ F 1 3 ≤ 2147483647 := H.krg 1 3 (by decide); rw [show F 1 3 = u1_3 from (eu1_3)] at h1; exact h1
  have r5 : (-2147483648 : Int) ≤ u1_4 ∧ u1_4 ≤ 2147483647 := by have h1 : (-2147483648 : Int) ≤ F 1 4 ∧ F 1 4 ≤ 2147483647 := H.krg 1 4 (by decide); rw [show F 1 4 = u1_4 from (eu1_4)] at h1; exact h1
  have r6 : (0 : Int) ≤ n2 ∧ n2 ≤ 1000000 := by have h1 := H.nle 2 (by decide); have h2 : (N 2 : Int) = n2 := en2; omega
  have r7 : (0 : Int) ≤ n3 ∧ n3 ≤ 1000000 := by have h1 := H.nle 3 (by decide); have h2 : (N 3 : Int) = n3 := en3; omega
  have r8 : (0 : Int) ≤ n4 ∧ n4 ≤ 1000000 := by have h1 := H.nle 4 (by decide); have h2 : (N 4 : Int) = n4 := en4; omega
  have r9 : (0 : Int) ≤ n5 ∧ n5 ≤ 1000000 := by have h1 := H.nle 5 (by decide); have h2 : (N 5 : Int) = n5 := en5; omega
  have r10 : (0 : Int) ≤ n6 ∧ n6 ≤ 1000000 := by have h1 := H.nle 6 (by decide); have h2 : (N 6 : Int) = n6 := en6; omega
  have hln : LNG ((w4)) ((u0_3)) := by assumption
  have hci : CI ((w4)) ((u0_3)) := by assumption
  have hcd : CDX ((w4)) ((u0_3)) ((w6)) ((w5)) := by assumption
  have hco : ∀ k, (a3) ≤ k → k < (a4) → ((w4)) ((ub8 ((w2))) k) ≠ 0 := by assumption
  refine Ew_of (pc' := 1) (fun _ => x_aload_n rfl rfl) ?_
  refine Ew_of (pc' := 2) (fun _ => x_iconst rfl) ?_
  refine Ew_of (pc' := 4) (fun _ => x_iload rfl rfl) ?_
  refine Ew_of (pc' := 5) (fun _ => x_iload_n rfl rfl) ?_
  refine w_isub rfl ?_
  refine w_imul rfl ?_
  refine Ew_of (pc' := 8) (fun _ => x_iconst rfl) ?_
  refine w_iadd rfl ?_
  refine v_inv H (o := 1) rfl rfl rfl rfl rfl rfl (by rfl) (C157 (D := pul [1, 3] D) (N := pul [1, 3] N) (HW_sub H (VS_of (show vsub V111_Row_Br V157 [1, 3] = true by decide +kernel))) (pf3) (n3) (en3) (u1_1) ((eu1_1)) (w3) (ew3) (show inr (((2 * (a4 - a3)) + 2)) by omega) (show 0 ≤ (u1_1) ∧ (u1_1) ≤ (n3) ∧ (n3) ≤ 65536 by omega) (fun z11 σ11 D11' N11' F11' A11' c11 s11 H' O' hD11 hN11 hS11 hA11 pm11_1 m11_1 em11_1 w11_1 ew11_1 pz11_0 pz11_1 pz11_2 pz11_3 pz11_4 => ⟨rretB rfl pz11_0, ?_⟩))
  refine v_backM (c := c) (s := s) H (show vsub V111_Row_Br V157 [1, 3] = true by decide +kernel) H' O' hD11 (show vmov V111_Row_Br [1, 3] [1] = true by decide +kernel) (fun D11 N11 F11 A11 H O' eD11 eN11 eF11 eA11 => ?_)
  have O := OUT_trans O O'
  -- Row.reserve
  have pf11_0_0 : F11 0 0 = (D11 4 : Int) := ((show F11 0 0 = F 0 0 from (eF11 0 0))).trans ((pf4).trans (congrArg (fun q : Nat => (q : Int)) ((show D11 4 = D 4 from (eD11 4))).symm))
  have pf11_0_1 : F11 0 1 = (D11 5 : Int) := ((show F11 0 1 = F 0 1 from (eF11 0 1))).trans ((pf5).trans (congrArg (fun q : Nat => (q : Int)) ((show D11 5 = D 5 from (eD11 5))).symm))
  have pf11_0_2 : F11 0 2 = (D11 6 : Int) := ((show F11 0 2 = F 0 2 from (eF11 0 2))).trans ((pf6).trans (congrArg (fun q : Nat => (q : Int)) ((show D11 6 = D 6 from (eD11 6))).symm))
  have pf11_1_0 : F11 1 0 = (D11 3 : Int) := (eF11 1 0).trans (pm11_1.trans (congrArg (fun q : Nat => (q : Int)) (eD11 3).symm))
  have r12 : (0 : Int) ≤ m11_1 ∧ m11_1 ≤ 1000000 := by have h1 := H.nle 3 (by decide); have h2 : (N11 3 : Int) = m11_1 := (congrArg (fun q : Nat => (q : Int)) (eN11 3)).trans em11_1; omega
  have hs12 : sc ((w11_1)) 0 ((u1_1)) = sc ((w3)) 0 ((u1_1)) := sc_same (fun i a b => pz11_4 i a (by omega))
  refine Ew_of (pc' := 13) (fun _ => x_pop rfl rfl) ?_
  refine Ew_of (pc' := 15) (fun _ => x_iload rfl rfl) ?_
  refine Ew_of (pc' := 16) (fun _ => x_iconst rfl) ?_
  refine w_isub rfl ?_
  refine Ew_of (pc' := 19) (fun _ => x_istore rfl) ?_
  have : RBB ((u1_2)) ((w11_1)) ((u1_1)) ((u1_3)) ((u1_4)) (sc ((w3)) 0 ((u1_1))) (smB ((w4)) ((u0_3)) (ub8 ((w2))) ((a4)) ((a4) - 1 - ((a4 - 1)) : Int).toNat) := by rw [smB_0 (by omega)]; exact RBB_new (by omega) hs12 (by omega) (by omega)
  have hp0 := p2_pos ((u1_4))
  suffices hl19 : ∀ (m : Nat), ∀ (ls : rO) (σ : rS) (F_19 : hF) (A_19 : hA) (x19_5 : Int), rlook ls 0 = some (.ref (D11 0)) → rlook ls 1 = some (.ref (D11 1)) → rlook ls 2 = some (.ref (D11 2)) → rlook ls 3 = some (I (a3)) → rlook ls 5 = some (I (x19_5)) → HW V111_Row_Br σ D11 N11 F_19 A_19 → OUT (V111_Row_Br).length D N σE c s D11 N11 σ (c + c11) (s + s11) → SF [(1, 1), (1, 2), (1, 3), (1, 4)] F11 F_19 → SA [3] A11 A_19 → ∀ y19_1_1 : Int, F_19 1 1 = y19_1_1 → ∀ y19_1_2 : Int, F_19 1 2 = y19_1_2 → ∀ y19_1_3 : Int, F_19 1 3 = y19_1_3 → ∀ y19_1_4 : Int, F_19 1 4 = y19_1_4 → ∀ w19_3 : Int → Int, A_19 3 = w19_3 → (inr (x19_5)) → ((x19_5) ≤ ((a4 - 1))) → (((a4 - 1)) ≤ (x19_5) ∨ (((a3) - 1)) ≤ (x19_5)) → (0 ≤ (y19_1_1) ∧ (y19_1_1) ≤ (m11_1) ∧ (m11_1) ≤ 65536) → (0 ≤ (y19_1_4) ∧ (y19_1_4) ≤ 7) → ((u1_1) ≤ (y19_1_1)) → ((a3) - 1 ≤ (x19_5)) → (0 ≤ (y19_1_3) ∧ (y19_1_3) < p2 ((y19_1_4))) → (8 * (y19_1_1) + (y19_1_4) ≤ 8 * (u1_1) + 11 * ((a4) - 1 - (x19_5))) → ((u1_1) + 2 * ((a4) - (a3)) + 2 ≤ (m11_1)) → (RBB ((y19_1_2)) ((w19_3)) ((y19_1_1)) ((y19_1_3)) ((y19_1_4)) (sc ((w3)) 0 ((u1_1))) (smB ((w4)) ((u0_3)) (ub8 ((w2))) ((a4)) ((a4) - 1 - (x19_5) : Int).toNat)) → ((x19_5) - (((a3) - 1))).toNat = m → Ew 111 (d + 2) 19 ls [] σ (c + c11) (s + s11) Q from
    hl19 _ _ _ _ _ ((a4 - 1)) ((rk_o (rfl) rfl rfl).trans (congrArg (fun q : Nat => some (Value.ref q)) (((show D11 0 = D 0 from (eD11 0)))).symm)) ((rk_o (rfl) rfl rfl).trans (congrArg (fun q : Nat => some (Value.ref q)) (((show D11 1 = D 1 from (eD11 1).trans (hD11 0 rfl)))).symm)) ((rk_o (rfl) rfl rfl).trans (congrArg (fun q : Nat => some (Value.ref q)) (((show D11 2 = D 2 from (eD11 2)))).symm)) (rk_o (rfl) rfl rfl) (rk_s) H O (SF_refl) (SA_refl)   (u1_1) ((((show F11 1 1 = F 1 1 from (eF11 1 1).trans (hS11 0 1 rfl))).trans (eu1_1))) (u1_2) ((((show F11 1 2 = F 1 2 from (eF11 1 2).trans (hS11 0 2 rfl))).trans (eu1_2))) (u1_3) ((((show F11 1 3 = F 1 3 from (eF11 1 3).trans (hS11 0 3 rfl))).trans (eu1_3))) (u1_4) ((((show F11 1 4 = F 1 4 from (eF11 1 4).trans (hS11 0 4 rfl))).trans (eu1_4))) (w11_1) ((eA11 3).trans ew11_1) (show inr ((a4 - 1)) by omega) (show ((a4 - 1)) ≤ ((a4 - 1)) by omega) (show ((a4 - 1)) ≤ ((a4 - 1)) ∨ (((a3) - 1)) ≤ ((a4 - 1)) by omega) (show 0 ≤ (u1_1) ∧ (u1_1) ≤ (m11_1) ∧ (m11_1) ≤ 65536 by omega) (show 0 ≤ (u1_4) ∧ (u1_4) ≤ 7 by omega) (show (u1_1) ≤ (u1_1) by omega) (show (a3) - 1 ≤ ((a4 - 1)) by omega) (show 0 ≤ (u1_3) ∧ (u1_3) < p2 ((u1_4)) by omega) (show 8 * (u1_1) + (u1_4) ≤ 8 * (u1_1) + 11 * ((a4) - 1 - ((a4 - 1))) by omega) (show (u1_1) + 2 * ((a4) - (a3)) + 2 ≤ (m11_1) by omega) (show RBB ((u1_2)) ((w11_1)) ((u1_1)) ((u1_3)) ((u1_4)) (sc ((w3)) 0 ((u1_1))) (smB ((w4)) ((u0_3)) (ub8 ((w2))) ((a4)) ((a4) - 1 - ((a4 - 1)) : Int).toNat) by assumption) rfl
  as_aux_lemma =>
  intro m
  induction m using Nat.strongRecOn with
  | _ m ih19 =>
    intro ls σ F_19 A_19 x19_5 l19_0 l19_1 l19_2 l19_3 l19_5 H O hS_19 hA_19   y19_1_1 ey19_1_1 y19_1_2 ey19_1_2 y19_1_3 ey19_1_3 y19_1_4 ey19_1_4 w19_3 ew19_3 j19_0 j19_1 j19_2 j19_3 j19_4 j19_5 j19_6 j19_7 j19_8 j19_9 j19_10 hm19
    have r13 : (-2147483648 : Int) ≤ y19_1_1 ∧ y19_1_1 ≤ 2147483647 := by have h1 : (-2147483648 : Int) ≤ F_19 1 1 ∧ F_19 1 1 ≤ 2147483647 := H.krg 1 1 (by decide); rw [show F_19 1 1 = y19_1_1 from (ey19_1_1)] at h1; exact h1
    have r14 : (0 : Int) ≤ y19_1_2 ∧ y19_1_2 ≤ 1 := by have h1 : (0 : Int) ≤ F_19 1 2 ∧ F_19 1 2 ≤ 1 := H.krg 1 2 (by decide); rw [show F_19 1 2 = y19_1_2 from (ey19_1_2)] at h1; exact h1
    have r15 : (-2147483648 : Int) ≤ y19_1_3 ∧ y19_1_3 ≤ 2147483647 := by have h1 : (-2147483648 : Int) ≤ F_19 1 3 ∧ F_19 1 3 ≤ 2147483647 := H.krg 1 3 (by decide); rw [show F_19 1 3 = y19_1_3 from (ey19_1_3)] at h1; exact h1
    have r16 : (-2147483648 : Int) ≤ y19_1_4 ∧ y19_1_4 ≤ 2147483647 := by have h1 : (-2147483648 : Int) ≤ F_19 1 4 ∧ F_19 1 4 ≤ 2147483647 := H.krg 1 4 (by decide); rw [show F_19 1 4 = y19_1_4 from (ey19_1_4)] at h1; exact h1
    have j19_w : RBB ((y19_1_2)) ((w19_3)) ((y19_1_1)) ((y19_1_3)) ((y19_1_4)) (sc ((w3)) 0 ((u1_1))) (smB ((w4)) ((u0_3)) (ub8 ((w2))) ((a4)) ((a4) - 1 - (x19_5) : Int).toNat) := by assumption
    refine Ew_of (pc' := 21) (fun _ => x_iload rfl l19_5) ?_
    refine Ew_of (pc' := 22) (fun _ => x_iload_n rfl l19_3) ?_
    refine w_icmplt (t := 59) rfl rfl (show inr (x19_5) by omega) (show inr (a3) by omega) (fun b17 => ?_) (fun b17 => ?_)
    · refine Ew_of (pc' := 60) (fun _ => x_aload_n rfl l19_1) ?_
      refine Ew_of (pc' := 61) (fun _ => x_iconst rfl) ?_
      refine Ew_of (pc' := 62) (fun _ => x_iconst rfl) ?_
      refine v_inv H (o := 1) rfl rfl rfl rfl rfl rfl (by rfl) (C164 (D := pul [1, 3] D11) (N := pul [1, 3] N11) (HW_sub H (VS_of (show vsub V111_Row_Br V164 [1, 3] = true by decide +kernel))) (((hS_19 1 0 rfl)).trans (pf11_1_0)) (m11_1) ((congrArg (fun q : Nat => (q : Int)) (eN11 3)).trans em11_1) (y19_1_1) ((ey19_1_1)) (y19_1_2) ((ey19_1_2)) (y19_1_3) ((ey19_1_3)) (y19_1_4) ((ey19_1_4)) (w19_3) (ew19_3) (show inr (1) by omega) (show inr (1) by omega) (show 0 ≤ (y19_1_1) ∧ (y19_1_1) ≤ (m11_1) ∧ (m11_1) ≤ 65536 by omega) (show 0 ≤ (1) ∧ (1) ≤ 31 by omega) (show 0 ≤ (y19_1_4) ∧ (y19_1_4) ≤ 7 by omega) (fun σ18 F18' A18' H' O' hS18 hA18 y18_0_1 ey18_0_1 y18_0_2 ey18_0_2 y18_0_3 ey18_0_3 y18_0_4 ey18_0_4 w18_1 ew18_1 pz18_0 pz18_1 pz18_2 pz18_3 => ⟨rfl, ?_⟩))
      refine v_back (c := (c + c11)) (s := (s + s11)) H (show vsub V111_Row_Br V164 [1, 3] = true by decide +kernel) H' O' (fun F18 A18 H O' eF18 eA18 => ?_)
      have O := OUT_trans O O'
      -- Row.addBits
      have r19 : (-2147483648 : Int) ≤ y18_0_1 ∧ y18_0_1 ≤ 2147483647 := by have h1 : (-2147483648 : Int) ≤ F18 1 1 ∧ F18 1 1 ≤ 2147483647 := H.krg 1 1 (by decide); rw [show F18 1 1 = y18_0_1 from ((eF18 1 1).trans ey18_0_1)] at h1; exact h1
      have r20 : (0 : Int) ≤ y18_0_2 ∧ y18_0_2 ≤ 1 := by have h1 : (0 : Int) ≤ F18 1 2 ∧ F18 1 2 ≤ 1 := H.krg 1 2 (by decide); rw [show F18 1 2 = y18_0_2 from ((eF18 1 2).trans ey18_0_2)] at h1; exact h1
      have r21 : (-2147483648 : Int) ≤ y18_0_3 ∧ y18_0_3 ≤ 2147483647 := by have h1 : (-2147483648 : Int) ≤ F18 1 3 ∧ F18 1 3 ≤ 2147483647 := H.krg 1 3 (by decide); rw [show F18 1 3 = y18_0_3 from ((eF18 1 3).trans ey18_0_3)] at h1; exact h1
      have r22 : (-2147483648 : Int) ≤ y18_0_4 ∧ y18_0_4 ≤ 2147483647 := by have h1 : (-2147483648 : Int) ≤ F18 1 4 ∧ F18 1 4 ≤ 2147483647 := H.krg 1 4 (by decide); rw [show F18 1 4 = y18_0_4 from ((eF18 1 4).trans ey18_0_4)] at h1; exact h1
      have ha65 := pz18_3 ⟨by omega, by omega, by omega, by omega⟩
      have hB65 := ha65.1 _ _ j19_w
      have hn65 := ha65.2.1
      have hm65 := ha65.2.2
      refine Ew_of (pc' := 66) (fun _ => x_aload_n rfl l19_1) ?_
      refine v_inv H (o := 1) rfl rfl rfl rfl rfl rfl (by rfl) (C165h (D := pul [1, 3] D11) (N := pul [1, 3] N11) (HW_sub H (VS_of (show vsub V111_Row_Br V165 [1, 3] = true by decide +kernel))) (((((show F18 1 0 = F_19 1 0 from (eF18 1 0).trans (hS18 0 0 rfl))).trans (hS_19 1 0 rfl))).trans (pf11_1_0)) (m11_1) ((congrArg (fun q : Nat => (q : Int)) (eN11 3)).trans em11_1) (y18_0_1) (((eF18 1 1).trans ey18_0_1)) (y18_0_2) (((eF18 1 2).trans ey18_0_2)) (y18_0_3) (((eF18 1 3).trans ey18_0_3)) (y18_0_4) (((eF18 1 4).trans ey18_0_4)) (w18_1) ((eA18 3).trans ew18_1) (show 0 ≤ (y18_0_1) ∧ (y18_0_1) ≤ (m11_1) ∧ (m11_1) ≤ 65536 by omega) (show 0 ≤ (y18_0_4) by omega) (fun σ23 F23' A23' H' O' hS23 hA23 y23_0_1 ey23_0_1 y23_0_2 ey23_0_2 y23_0_3 ey23_0_3 y23_0_4 ey23_0_4 w23_1 ew23_1 pz23_0 pz23_1 pz23_2 pz23_3 pz23_4 => ⟨rfl, ?_⟩))
      refine v_back (c := (c + c11)) (s := (s + s11)) H (show vsub V111_Row_Br V165 [1, 3] = true by decide +kernel) H' O' (fun F23 A23 H O' eF23 eA23 => ?_)
      have O := OUT_trans O O'
      -- Row.endBits
      have r24 : (-2147483648 : Int) ≤ y23_0_1 ∧ y23_0_1 ≤ 2147483647 := by have h1 : (-2147483648 : Int) ≤ F23 1 1 ∧ F23 1 1 ≤ 2147483647 := H.krg 1 1 (by decide); rw [show F23 1 1 = y23_0_1 from ((eF23 1 1).trans ey23_0_1)] at h1; exact h1
      have r25 : (0 : Int) ≤ y23_0_2 ∧ y23_0_2 ≤ 1 := by have h1 : (0 : Int) ≤ F23 1 2 ∧ F23 1 2 ≤ 1 := H.krg 1 2 (by decide); rw [show F23 1 2 = y23_0_2 from ((eF23 1 2).trans ey23_0_2)] at h1; exact h1
      have r26 : (-2147483648 : Int) ≤ y23_0_3 ∧ y23_0_3 ≤ 2147483647 := by have h1 : (-2147483648 : Int) ≤ F23 1 3 ∧ F23 1 3 ≤ 2147483647 := H.krg 1 3 (by decide); rw [show F23 1 3 = y23_0_3 from ((eF23 1 3).trans ey23_0_3)] at h1; exact h1
      have r27 : (-2147483648 : Int) ≤ y23_0_4 ∧ y23_0_4 ≤ 2147483647 := by have h1 : (-2147483648 : Int) ≤ F23 1 4 ∧ F23 1 4 ≤ 2147483647 := H.krg 1 4 (by decide); rw [show F23 1 4 = y23_0_4 from ((eF23 1 4).trans ey23_0_4)] at h1; exact h1
      have hfin := pz23_3 ⟨by omega, by omega⟩ _ _ hB65
      have hend : sc ((w23_1)) 0 ((y23_0_1)) = sc ((w3)) 0 ((u1_1)) ++ byw (stm ((w4)) ((u0_3)) (ub8 ((w2))) ((a3)) ((a4))) := by have e := (RBB_L hfin).1; rw [show ((a4) - 1 - (x19_5) : Int).toNat = ((a4) - (a3) : Int).toNat by omega] at e; exact e
      have hbu0 := (RBB_L hfin).2
      exact w_ret rfl (k _ _ _ _ _ _ _ H O (SD_trans (SD_refl) (SD_glu (ι := [1, 3]) hD11 eD11 (by decide +kernel)) (any_subA (l' := [3]) rfl)) (SD_trans (SD_refl) (SD_glu (ι := [1, 3]) hN11 eN11 (by decide +kernel)) (any_subA (l' := [3]) rfl)) (SF_trans (SF_trans (SF_trans (SF_trans (SF_refl) (SF_glu (ι := [1, 3]) hS11 eF11 (by decide +kernel)) (any_sub (l' := [(1, 0)]) rfl)) hS_19 (any_sub rfl)) (SF_glu (ι := [1, 3]) hS18 eF18 (by decide +kernel)) (any_sub (l' := [(1, 1), (1, 2), (1, 3), (1, 4)]) rfl)) (SF_glu (ι := [1, 3]) hS23 eF23 (by decide +kernel)) (any_sub (l' := [(1, 1), (1, 2), (1, 3), (1, 4)]) rfl)) (SA_trans (SA_trans (SA_trans (SA_trans (SA_refl) (SA_glu (ι := [1, 3]) hA11 eA11 (by decide +kernel)) (any_subA (l' := [3]) rfl)) hA_19 (any_subA rfl)) (SA_glu (ι := [1, 3]) hA18 eA18 (by decide +kernel)) (any_subA (l' := [3]) rfl)) (SA_glu (ι := [1, 3]) hA23 eA23 (by decide +kernel)) (any_subA (l' := [3]) rfl)) ((((((show F23 1 0 = F18 1 0 from (eF23 1 0).trans (hS23 0 0 rfl))).trans ((show F18 1 0 = F_19 1 0 from (eF18 1 0).trans (hS18 0 0 rfl)))).trans (hS_19 1 0 rfl))).trans (pf11_1_0)) (m11_1) ((congrArg (fun q : Nat => (q : Int)) (eN11 3)).trans em11_1) (y23_0_1) (((eF23 1 1).trans ey23_0_1)) (y23_0_2) (((eF23 1 2).trans ey23_0_2)) (y23_0_3) (((eF23 1 3).trans ey23_0_3)) (y23_0_4) (((eF23 1 4).trans ey23_0_4)) (w23_1) ((eA23 3).trans ew23_1) (show 0 ≤ (y23_0_1) ∧ (y23_0_1) ≤ (m11_1) ∧ (m11_1) ≤ 65536 by omega) (show (y23_0_4) = 0 by omega) (show (u1_1) ≤ (y23_0_1) by omega) (show (y23_0_3) = 0 ∧ (y23_0_2) = 0 by omega) (show sc ((w23_1)) 0 ((y23_0_1)) = sc ((w3)) 0 ((u1_1)) ++ byw (stm ((w4)) ((u0_3)) (ub8 ((w2))) (a3) (a4)) by assumption) (show 8 * (y23_0_1) ≤ 8 * (u1_1) + 11 * (a4 - a3) + 16 by omega))
    · obtain ⟨ql5, hql5⟩ : ∃ q : Int, q = (x19_5) := ⟨_, rfl⟩
      refine Ew_of (pc' := 26) (fun _ => x_aload_n rfl l19_2) ?_
      refine Ew_of (pc' := 28) (fun _ => x_iload rfl l19_5) ?_
      refine v_lB H (o := 2) rfl rfl rfl rfl (n := n2) ((congrArg (fun q : Nat => (q : Int)) (show N11 2 = N 2 from (eN11 2))).trans (en2)) (show 0 ≤ x19_5 ∧ x19_5 < n2 by omega) (fun v28 ev28 qv28 => ?_)
      have ev28 : (w2) (x19_5) = v28 := (congrFun ((funext (hA_19 2 rfl)).trans (((show A11 2 = A 2 from (eA11 2))).trans (ew2))) (x19_5)).symm.trans ev28
      have he29 := ev28
      refine Ew_of (pc' := 32) (fun _ => x_sipush (z := 255) rfl (by decide)) ?_
      refine v_and255 rfl ?_
      have hu33 : (ub8 ((w2))) ql5 = ((v28 % 256)) := by rw [hql5]; show u8 (((w2)) ((x19_5))) = ((v28 % 256)); rw [he29]; unfold u8; omega
      have hs33 : (ub8 ((w2))) ((a4) - 1 - ((a4) - 1 - ql5)) = ((v28 % 256)) := by rw [show (a4) - 1 - ((a4) - 1 - ql5) = ql5 by omega]; exact hu33
      have hnz := hco (ql5) (by omega) (by omega)
      rw [hu33] at hnz
      refine Ew_of (pc' := 35) (fun _ => x_istore rfl) ?_
      refine Ew_of (pc' := 36) (fun _ => x_aload_n rfl (rk_o (l19_1) rfl rfl)) ?_
      refine Ew_of (pc' := 37) (fun _ => x_aload_n rfl (rk_o (l19_0) rfl rfl)) ?_
      refine v_g H (o := 0) (v := .ref (D11 5)) rfl rfl rfl rfl rfl (vrf (((hS_19 0 1 rfl)).trans (pf11_0_1))) ?_
      refine Ew_of (pc' := 42) (fun _ => x_iload rfl rk_s) ?_
      refine v_lI H (o := 5) rfl rfl rfl rfl (n := n5) ((congrArg (fun q : Nat => (q : Int)) (show N11 5 = N 5 from (eN11 5))).trans (en5)) (show 0 ≤ (v28 % 256) ∧ (v28 % 256) < n5 by omega) (fun v29 ev29 qv29 => ?_)
      have ev29 : (w5) ((v28 % 256)) = v29 := (congrFun ((funext (hA_19 5 rfl)).trans (((show A11 5 = A 5 from (eA11 5))).trans (ew5))) ((v28 % 256))).symm.trans ev29
      have hc43 : (v29) = cdF ((w4)) ((u0_3)) (((v28 % 256))) / p2 (((u0_3)) - ((w4)) (((v28 % 256)))) := by rw [← ev29]; exact (hcd hci).2 (((v28 % 256))) (by omega) (by omega) hnz
      refine Ew_of (pc' := 44) (fun _ => x_aload_n rfl (rk_o (l19_0) rfl rfl)) ?_
      refine v_g H (o := 0) (v := .ref (D11 4)) rfl rfl rfl rfl rfl (vrf (((hS_19 0 0 rfl)).trans (pf11_0_0))) ?_
      refine Ew_of (pc' := 49) (fun _ => x_iload rfl rk_s) ?_
      refine v_lI H (o := 4) rfl rfl rfl rfl (n := n4) ((congrArg (fun q : Nat => (q : Int)) (show N11 4 = N 4 from (eN11 4))).trans (en4)) (show 0 ≤ (v28 % 256) ∧ (v28 % 256) < n4 by omega) (fun v30 ev30 qv30 => ?_)
      have ev30 : (w4) ((v28 % 256)) = v30 := (congrFun ((funext (hA_19 4 rfl)).trans (((show A11 4 = A 4 from (eA11 4))).trans (ew4))) ((v28 % 256))).symm.trans ev30
      have hlb := hln (((v28 % 256))) (by omega) (by omega)
      rw [ev30] at hlb
      have hl50 := ev30
      refine v_inv H (o := 1) rfl rfl rfl rfl rfl rfl (by rfl) (C164 (D := pul [1, 3] D11) (N := pul [1, 3] N11) (HW_sub H (VS_of (show vsub V111_Row_Br V164 [1, 3] = true by decide +kernel))) (((hS_19 1 0 rfl)).trans (pf11_1_0)) (m11_1) ((congrArg (fun q : Nat => (q : Int)) (eN11 3)).trans em11_1) (y19_1_1) ((ey19_1_1)) (y19_1_2) ((ey19_1_2)) (y19_1_3) ((ey19_1_3)) (y19_1_4) ((ey19_1_4)) (w19_3) (ew19_3) (show inr (v29) by omega) (show inr (v30) by omega) (show 0 ≤ (y19_1_1) ∧ (y19_1_1) ≤ (m11_1) ∧ (m11_1) ≤ 65536 by omega) (show 0 ≤ (v30) ∧ (v30) ≤ 31 by omega) (show 0 ≤ (y19_1_4) ∧ (y19_1_4) ≤ 7 by omega) (fun σ31 F31' A31' H' O' hS31 hA31 y31_0_1 ey31_0_1 y31_0_2 ey31_0_2 y31_0_3 ey31_0_3 y31_0_4 ey31_0_4 w31_1 ew31_1 pz31_0 pz31_1 pz31_2 pz31_3 => ⟨rfl, ?_⟩))
      refine v_back (c := (c + c11)) (s := (s + s11)) H (show vsub V111_Row_Br V164 [1, 3] = true by decide +kernel) H' O' (fun F31 A31 H O' eF31 eA31 => ?_)
      have O := OUT_trans O O'
      -- Row.addBits
      have r32 : (-2147483648 : Int) ≤ y31_0_1 ∧ y31_0_1 ≤ 2147483647 := by have h1 : (-2147483648 : Int) ≤ F31 1 1 ∧ F31 1 1 ≤ 2147483647 := H.krg 1 1 (by decide); rw [show F31 1 1 = y31_0_1 from ((eF31 1 1).trans ey31_0_1)] at h1; exact h1
      have r33 : (0 : Int) ≤ y31_0_2 ∧ y31_0_2 ≤ 1 := by have h1 : (0 : Int) ≤ F31 1 2 ∧ F31 1 2 ≤ 1 := H.krg 1 2 (by decide); rw [show F31 1 2 = y31_0_2 from ((eF31 1 2).trans ey31_0_2)] at h1; exact h1
      have r34 : (-2147483648 : Int) ≤ y31_0_3 ∧ y31_0_3 ≤ 2147483647 := by have h1 : (-2147483648 : Int) ≤ F31 1 3 ∧ F31 1 3 ≤ 2147483647 := H.krg 1 3 (by decide); rw [show F31 1 3 = y31_0_3 from ((eF31 1 3).trans ey31_0_3)] at h1; exact h1
      have r35 : (-2147483648 : Int) ≤ y31_0_4 ∧ y31_0_4 ≤ 2147483647 := by have h1 : (-2147483648 : Int) ≤ F31 1 4 ∧ F31 1 4 ≤ 2147483647 := H.krg 1 4 (by decide); rw [show F31 1 4 = y31_0_4 from ((eF31 1 4).trans ey31_0_4)] at h1; exact h1
      have ha53 := pz31_3 ⟨by omega, by omega, by omega, by omega⟩
      have hB53 := ha53.1 _ _ j19_w
      have hn53 := ha53.2.1
      have hm53 := ha53.2.2
      refine Ew_of (pc' := 56) (fun _ => x_iinc (len := 3) rfl (rk_o (l19_5) rfl rfl)) ?_
      refine Ew_of (pc' := 19) (fun _ => x_goto rfl rfl) ?_
      have : RBB ((y31_0_2)) ((w31_1)) ((y31_0_1)) ((y31_0_3)) ((y31_0_4)) (sc ((w3)) 0 ((u1_1))) (smB ((w4)) ((u0_3)) (ub8 ((w2))) ((a4)) ((a4) - 1 - ((x19_5 + (-1))) : Int).toNat) := by rw [smB_s (n := (a4) - 1 - ql5) (by omega) (by omega) hs33 hc43 hl50, hql5]; exact hB53
      exact ih19 _ (by omega) _ _ _ _ ((x19_5 + (-1))) (rk_o (rk_o (l19_0) rfl rfl) rfl rfl) (rk_o (rk_o (l19_1) rfl rfl) rfl rfl) (rk_o (rk_o (l19_2) rfl rfl) rfl rfl) (rk_o (rk_o (l19_3) rfl rfl) rfl rfl) (rk_s) H O (SF_trans (hS_19) (SF_glu (ι := [1, 3]) hS31 eF31 (by decide +kernel)) (any_sub (l' := [(1, 1), (1, 2), (1, 3), (1, 4)]) rfl)) (SA_trans (hA_19) (SA_glu (ι := [1, 3]) hA31 eA31 (by decide +kernel)) (any_subA (l' := [3]) rfl))   (y31_0_1) (((eF31 1 1).trans ey31_0_1)) (y31_0_2) (((eF31 1 2).trans ey31_0_2)) (y31_0_3) (((eF31 1 3).trans ey31_0_3)) (y31_0_4) (((eF31 1 4).trans ey31_0_4)) (w31_1) ((eA31 3).trans ew31_1) (show inr ((x19_5 + (-1))) by omega) (show ((x19_5 + (-1))) ≤ ((a4 - 1)) by omega) (show ((a4 - 1)) ≤ ((x19_5 + (-1))) ∨ (((a3) - 1)) ≤ ((x19_5 + (-1))) by omega) (show 0 ≤ (y31_0_1) ∧ (y31_0_1) ≤ (m11_1) ∧ (m11_1) ≤ 65536 by omega) (show 0 ≤ (y31_0_4) ∧ (y31_0_4) ≤ 7 by omega) (show (u1_1) ≤ (y31_0_1) by omega) (show (a3) - 1 ≤ ((x19_5 + (-1))) by omega) (show 0 ≤ (y31_0_3) ∧ (y31_0_3) < p2 ((y31_0_4)) by omega) (show 8 * (y31_0_1) + (y31_0_4) ≤ 8 * (u1_1) + 11 * ((a4) - 1 - ((x19_5 + (-1)))) by omega) (show (u1_1) + 2 * ((a4) - (a3)) + 2 ≤ (m11_1) by omega) (show RBB ((y31_0_2)) ((w31_1)) ((y31_0_1)) ((y31_0_3)) ((y31_0_4)) (sc ((w3)) 0 ((u1_1))) (smB ((w4)) ((u0_3)) (ub8 ((w2))) ((a4)) ((a4) - 1 - ((x19_5 + (-1))) : Int).toNat) by assumption) rfl
abbrev V105_Row : vV := [(0, 3, [(4, 0), (4, 0), (4, 0), (0, 0), (4, 0), (4, 0), (4, 0), (4, 0), (4, 0), (4, 0), (4, 0), (4, 0), (4, 0), (0, 0), (0, 0), (0, 0), (0, 0)]), (0, 7, [(4, 0), (0, 0), (1, 0), (0, 0), (0, 0)]), (1, 0, []), (1, 1, [])]
/-- Codes.describeDirectly: this, #1, #1.bytes, this.weights -/
theorem C105_Row {σE : rS} {D N : Nat → Nat} {F : hF} {A : hA} {d c s : Nat} {Q : wQ} (H : HW V105_Row σE D N F A) {a2 : Int} (pf2 : F 1 0 = (D 2 : Int)) (pf3 : F 0 4 = (D 3 : Int)) (n2 : Int) (en2 : (N 2 : Int) = n2) (n3 : Int) (en3 : (N 3 : Int) = n3) (u1_1 : Int) (eu1_1 : F 1 1 = u1_1) (u1_2 : Int) (eu1_2 : F 1 2 = u1_2) (u1_3 : Int) (eu1_3 : F 1 3 = u1_3) (u1_4 : Int) (eu1_4 : F 1 4 = u1_4) (w2 : Int → Int) (ew2 : A 2 = w2) (w3 : Int → Int) (ew3 : A 3 = w3) (h0 : inr (a2)) (h1 : 0 ≤ (u1_1) ∧ (u1_1) ≤ (n2) ∧ (n2) ≤ 65536) (h2 : 0 ≤ (u1_4) ∧ (u1_4) ≤ 7) (h3 : 0 ≤ (a2) ∧ (a2) ≤ 128) (h4 : (n3) = 256) (h5 : (u1_1) = 0 ∧ (u1_4) = 0 ∧ (u1_3) = 0 ∧ (u1_2) = 0) (h6 : WGB ((w3)) 11 (a2)) (k : ∀ (σ : rS) (D' N' : Nat → Nat) (F' : hF) (A' : hA) (c' s' : Nat), HW V105_Row σ D' N' F' A' → OUT (V105_Row).length D N σE c s D' N' σ c' s' → SD [2] D D' → SD [2] N N' → SF [(1, 0), (1, 1), (1, 2), (1, 3), (1, 4)] F F' → SA [2] A A' → F' 1 0 = (D' 2 : Int) → ∀ m2 : Int, (N' 2 : Int) = m2 → ∀ y1_1 : Int, F' 1 1 = y1_1 → ∀ y1_2 : Int, F' 1 2 = y1_2 → ∀ y1_3 : Int, F' 1 3 = y1_3 → ∀ y1_4 : Int, F' 1 4 = y1_4 → ∀ v2 : Int → Int, A' 2 = v2 → (0 ≤ (y1_1) ∧ (y1_1) ≤ (m2) ∧ (m2) ≤ 65536) → (0 ≤ (y1_4) ∧ (y1_4) ≤ 7) → ((u1_1) ≤ (y1_1)) → ((y1_4) = 0 ∧ (y1_3) = 0 ∧ (y1_2) = 0) → (sc ((v2)) 0 ((y1_1)) = drB ((w3)) ((a2))) → Q none σ c' s') : Ew 105 (d + 2) 0 (rargs 0 [.ref (D 0), .ref (D 1), I a2]) [] σE c s Q := by
  have O := OUT_refl (n := (V105_Row).length) (D := D) (N := N) (σ := σE) (c := c) (s := s)
  have HE := H
  have r1 : (-2147483648 : Int) ≤ u1_1 ∧ u1_1 ≤ 2147483647 := by have h1 : (-2147483648 : Int) ≤ F 1 1 ∧ F 1 1 ≤ 2147483647 := H.krg 1 1 (by decide); rw [show F 1 1 = u1_1 from (eu1_1)] at h1; exact h1
  have r2 : (0 : Int) ≤ u1_2 ∧ u1_2 ≤ 1 := by have h1 : (0 : Int) ≤ F 1 2 ∧ F 1 2 ≤ 1 := H.krg 1 2 (by decide); rw [show F 1 2 = u1_2 from (eu1_2)] at h1; exact h1
  have r3 : (-2147483648 : Int) ≤ u1_3 ∧ u1_3 ≤ 2147483647 := by have h1 : (-2147483648 : Int) ≤ F 1 3 ∧ F 1 3 ≤ 2147483647 := H.krg 1 3 (by decide); rw [show F 1 3 = u1_3 from (eu1_3)] at h1; exact h1
  have r4 : (-2147483648 : Int) ≤ u1_4 ∧ u1_4 ≤ 2147483647 := by have h1 : (-2147483648 : Int) ≤ F 1 4 ∧ F 1 4 ≤ 2147483647 := H.krg 1 4 (by decide); rw [show F 1 4 = u1_4 from (eu1_4)] at h1; exact h1
  have r5 : (0 : Int) ≤ n2 ∧ n2 ≤ 1000000 := by have h1 := H.nle 2 (by decide); have h2 : (N 2 : Int) = n2 := en2; omega
  have r6 : (0 : Int) ≤ n3 ∧ n3 ≤ 1000000 := by have h1 := H.nle 3 (by decide); have h2 : (N 3 : Int) = n3 := en3; omega
  have hwg : WGB ((w3)) 11 (a2) := by assumption
  refine Ew_of (pc' := 1) (fun _ => x_aload_n rfl rfl) ?_
  refine Ew_of (pc' := 2) (fun _ => x_iconst rfl) ?_
  refine Ew_of (pc' := 3) (fun _ => x_iload_n rfl rfl) ?_
  refine w_iadd rfl ?_
  refine v_inv H (o := 1) rfl rfl rfl rfl rfl rfl (by rfl) (C157 (D := pul [1, 2] D) (N := pul [1, 2] N) (HW_sub H (VS_of (show vsub V105_Row V157 [1, 2] = true by decide +kernel))) (pf2) (n2) (en2) (u1_1) ((eu1_1)) (w2) (ew2) (show inr ((1 + a2)) by omega) (show 0 ≤ (u1_1) ∧ (u1_1) ≤ (n2) ∧ (n2) ≤ 65536 by omega) (fun z7 σ7 D7' N7' F7' A7' c7 s7 H' O' hD7 hN7 hS7 hA7 pm7_1 m7_1 em7_1 w7_1 ew7_1 pz7_0 pz7_1 pz7_2 pz7_3 pz7_4 => ⟨rretB rfl pz7_0, ?_⟩))
  refine v_backM (c := c) (s := s) H (show vsub V105_Row V157 [1, 2] = true by decide +kernel) H' O' hD7 (show vmov V105_Row [1, 2] [1] = true by decide +kernel) (fun D7 N7 F7 A7 H O' eD7 eN7 eF7 eA7 => ?_)
  have O := OUT_trans O O'
  -- Row.reserve
  have pf7_0_4 : F7 0 4 = (D7 3 : Int) := ((show F7 0 4 = F 0 4 from (eF7 0 4))).trans ((pf3).trans (congrArg (fun q : Nat => (q : Int)) ((show D7 3 = D 3 from (eD7 3))).symm))
  have pf7_1_0 : F7 1 0 = (D7 2 : Int) := (eF7 1 0).trans (pm7_1.trans (congrArg (fun q : Nat => (q : Int)) (eD7 2).symm))
  have r8 : (0 : Int) ≤ m7_1 ∧ m7_1 ≤ 1000000 := by have h1 := H.nle 2 (by decide); have h2 : (N7 2 : Int) = m7_1 := (congrArg (fun q : Nat => (q : Int)) (eN7 2)).trans em7_1; omega
  refine Ew_of (pc' := 8) (fun _ => x_pop rfl rfl) ?_
  refine Ew_of (pc' := 9) (fun _ => x_aload_n rfl rfl) ?_
  refine Ew_of (pc' := 11) (fun _ => x_bipush (z := 127) rfl (by decide)) ?_
  refine Ew_of (pc' := 12) (fun _ => x_iload_n rfl rfl) ?_
  refine w_iadd rfl ?_
  refine Ew_of (pc' := 15) (fun _ => x_bipush (z := 8) rfl (by decide)) ?_
  refine Ew_stk (show ([I (8), I ((127 + a2)), .ref (D 1)] : List Value) = [I (8), I ((127 + a2)), .ref (D7 1)] by rw [show D7 1 = D 1 from ((show D7 1 = D 1 from (eD7 1).trans (hD7 0 rfl)))]) ?_
  refine v_inv H (o := 1) rfl rfl rfl rfl rfl rfl (by rfl) (C164 (D := pul [1, 2] D7) (N := pul [1, 2] N7) (HW_sub H (VS_of (show vsub V105_Row V164 [1, 2] = true by decide +kernel))) (pf7_1_0) (m7_1) ((congrArg (fun q : Nat => (q : Int)) (eN7 2)).trans em7_1) (u1_1) ((((show F7 1 1 = F 1 1 from (eF7 1 1).trans (hS7 0 1 rfl))).trans (eu1_1))) (u1_2) ((((show F7 1 2 = F 1 2 from (eF7 1 2).trans (hS7 0 2 rfl))).trans (eu1_2))) (u1_3) ((((show F7 1 3 = F 1 3 from (eF7 1 3).trans (hS7 0 3 rfl))).trans (eu1_3))) (u1_4) ((((show F7 1 4 = F 1 4 from (eF7 1 4).trans (hS7 0 4 rfl))).trans (eu1_4))) (w7_1) ((eA7 2).trans ew7_1) (show inr ((127 + a2)) by omega) (show inr (8) by omega) (show 0 ≤ (u1_1) ∧ (u1_1) ≤ (m7_1) ∧ (m7_1) ≤ 65536 by omega) (show 0 ≤ (8) ∧ (8) ≤ 31 by omega) (show 0 ≤ (u1_4) ∧ (u1_4) ≤ 7 by omega) (fun σ9 F9' A9' H' O' hS9 hA9 y9_0_1 ey9_0_1 y9_0_2 ey9_0_2 y9_0_3 ey9_0_3 y9_0_4 ey9_0_4 w9_1 ew9_1 pz9_0 pz9_1 pz9_2 pz9_3 => ⟨rfl, ?_⟩))
  refine v_back (c := (c + c7)) (s := (s + s7)) H (show vsub V105_Row V164 [1, 2] = true by decide +kernel) H' O' (fun F9 A9 H O' eF9 eA9 => ?_)
  have O := OUT_trans O O'
  -- Row.addBits
  have r10 : (-2147483648 : Int) ≤ y9_0_1 ∧ y9_0_1 ≤ 2147483647 := by have h1 : (-2147483648 : Int) ≤ F9 1 1 ∧ F9 1 1 ≤ 2147483647 := H.krg 1 1 (by decide); rw [show F9 1 1 = y9_0_1 from ((eF9 1 1).trans ey9_0_1)] at h1; exact h1
  have r11 : (0 : Int) ≤ y9_0_2 ∧ y9_0_2 ≤ 1 := by have h1 : (0 : Int) ≤ F9 1 2 ∧ F9 1 2 ≤ 1 := H.krg 1 2 (by decide); rw [show F9 1 2 = y9_0_2 from ((eF9 1 2).trans ey9_0_2)] at h1; exact h1
  have r12 : (-2147483648 : Int) ≤ y9_0_3 ∧ y9_0_3 ≤ 2147483647 := by have h1 : (-2147483648 : Int) ≤ F9 1 3 ∧ F9 1 3 ≤ 2147483647 := H.krg 1 3 (by decide); rw [show F9 1 3 = y9_0_3 from ((eF9 1 3).trans ey9_0_3)] at h1; exact h1
  have r13 : (-2147483648 : Int) ≤ y9_0_4 ∧ y9_0_4 ≤ 2147483647 := by have h1 : (-2147483648 : Int) ≤ F9 1 4 ∧ F9 1 4 ≤ 2147483647 := H.krg 1 4 (by decide); rw [show F9 1 4 = y9_0_4 from ((eF9 1 4).trans ey9_0_4)] at h1; exact h1
  have ha18 := pz9_3 ⟨by omega, by omega, lt_p2 (by omega), by omega⟩
  have hB18 := ha18.1 [] [] (RBB_new (by omega) (sc_nil (by omega)) (by omega) (by omega))
  rw [List.nil_append] at hB18
  have hn18 := ha18.2.1
  have hm18 := ha18.2.2
  refine Ew_of (pc' := 19) (fun _ => x_iconst rfl) ?_
  refine Ew_of (pc' := 20) (fun _ => x_istore_n rfl) ?_
  have : RBB ((y9_0_2)) ((w9_1)) ((y9_0_1)) ((y9_0_3)) ((y9_0_4)) [] (btw (127 + (a2)) 8 ++ drP ((w3)) ((a2)) ((0))) := by rw [drP_0, List.append_nil]; exact hB18
  suffices hl20 : ∀ (m : Nat), ∀ (ls : rO) (σ : rS) (F_20 : hF) (A_20 : hA) (x20_3 : Int), rlook ls 0 = some (.ref (D7 0)) → rlook ls 1 = some (.ref (D7 1)) → rlook ls 2 = some (I (a2)) → rlook ls 3 = some (I (x20_3)) → HW V105_Row σ D7 N7 F_20 A_20 → OUT (V105_Row).length D N σE c s D7 N7 σ (c + c7) (s + s7) → SF [(1, 1), (1, 2), (1, 3), (1, 4)] F9 F_20 → SA [2] A9 A_20 → ∀ y20_1_1 : Int, F_20 1 1 = y20_1_1 → ∀ y20_1_2 : Int, F_20 1 2 = y20_1_2 → ∀ y20_1_3 : Int, F_20 1 3 = y20_1_3 → ∀ y20_1_4 : Int, F_20 1 4 = y20_1_4 → ∀ w20_2 : Int → Int, A_20 2 = w20_2 → (inr (x20_3)) → (0 ≤ (x20_3) ∧ (x20_3) ≤ (a2) + 1) → ((x20_3) % 2 = 0) → (0 ≤ (y20_1_1) ∧ (y20_1_1) ≤ (m7_1) ∧ (m7_1) ≤ 65536) → (0 ≤ (y20_1_4) ∧ (y20_1_4) ≤ 7) → ((u1_1) ≤ (y20_1_1)) → (1 + (a2) ≤ (m7_1)) → (0 ≤ (y20_1_3) ∧ (y20_1_3) < p2 ((y20_1_4))) → (8 * (y20_1_1) + (y20_1_4) = 8 + 4 * (x20_3)) → (RBB ((y20_1_2)) ((w20_2)) ((y20_1_1)) ((y20_1_3)) ((y20_1_4)) [] (btw (127 + (a2)) 8 ++ drP ((w3)) ((a2)) ((x20_3)))) → ((a2) - (x20_3)).toNat = m → Ew 105 (d + 2) 20 ls [] σ (c + c7) (s + s7) Q from
    hl20 _ _ _ _ _ (0) ((rk_o (rfl) rfl rfl).trans (congrArg (fun q : Nat => some (Value.ref q)) (((show D7 0 = D 0 from (eD7 0)))).symm)) ((rk_o (rfl) rfl rfl).trans (congrArg (fun q : Nat => some (Value.ref q)) (((show D7 1 = D 1 from (eD7 1).trans (hD7 0 rfl)))).symm)) (rk_o (rfl) rfl rfl) (rk_s) H O (SF_refl) (SA_refl)   (y9_0_1) (((eF9 1 1).trans ey9_0_1)) (y9_0_2) (((eF9 1 2).trans ey9_0_2)) (y9_0_3) (((eF9 1 3).trans ey9_0_3)) (y9_0_4) (((eF9 1 4).trans ey9_0_4)) (w9_1) ((eA9 2).trans ew9_1) (show inr (0) by omega) (show 0 ≤ (0) ∧ (0) ≤ (a2) + 1 by omega) (show (0) % 2 = 0 by omega) (show 0 ≤ (y9_0_1) ∧ (y9_0_1) ≤ (m7_1) ∧ (m7_1) ≤ 65536 by omega) (show 0 ≤ (y9_0_4) ∧ (y9_0_4) ≤ 7 by omega) (show (u1_1) ≤ (y9_0_1) by omega) (show 1 + (a2) ≤ (m7_1) by omega) (show 0 ≤ (y9_0_3) ∧ (y9_0_3) < p2 ((y9_0_4)) by omega) (show 8 * (y9_0_1) + (y9_0_4) = 8 + 4 * (0) by omega) (show RBB ((y9_0_2)) ((w9_1)) ((y9_0_1)) ((y9_0_3)) ((y9_0_4)) [] (btw (127 + (a2)) 8 ++ drP ((w3)) ((a2)) ((0))) by assumption) rfl
  as_aux_lemma =>
  intro m
  induction m using Nat.strongRecOn with
  | _ m ih20 =>
    intro ls σ F_20 A_20 x20_3 l20_0 l20_1 l20_2 l20_3 H O hS_20 hA_20   y20_1_1 ey20_1_1 y20_1_2 ey20_1_2 y20_1_3 ey20_1_3 y20_1_4 ey20_1_4 w20_2 ew20_2 j20_0 j20_1 j20_2 j20_3 j20_4 j20_5 j20_6 j20_7 j20_8 j20_9 hm20
    have r14 : (-2147483648 : Int) ≤ y20_1_1 ∧ y20_1_1 ≤ 2147483647 := by have h1 : (-2147483648 : Int) ≤ F_20 1 1 ∧ F_20 1 1 ≤ 2147483647 := H.krg 1 1 (by decide); rw [show F_20 1 1 = y20_1_1 from (ey20_1_1)] at h1; exact h1
    have r15 : (0 : Int) ≤ y20_1_2 ∧ y20_1_2 ≤ 1 := by have h1 : (0 : Int) ≤ F_20 1 2 ∧ F_20 1 2 ≤ 1 := H.krg 1 2 (by decide); rw [show F_20 1 2 = y20_1_2 from (ey20_1_2)] at h1; exact h1
    have r16 : (-2147483648 : Int) ≤ y20_1_3 ∧ y20_1_3 ≤ 2147483647 := by have h1 : (-2147483648 : Int) ≤ F_20 1 3 ∧ F_20 1 3 ≤ 2147483647 := H.krg 1 3 (by decide); rw [show F_20 1 3 = y20_1_3 from (ey20_1_3)] at h1; exact h1
    have r17 : (-2147483648 : Int) ≤ y20_1_4 ∧ y20_1_4 ≤ 2147483647 := by have h1 : (-2147483648 : Int) ≤ F_20 1 4 ∧ F_20 1 4 ≤ 2147483647 := H.krg 1 4 (by decide); rw [show F_20 1 4 = y20_1_4 from (ey20_1_4)] at h1; exact h1
    have j20_w : RBB ((y20_1_2)) ((w20_2)) ((y20_1_1)) ((y20_1_3)) ((y20_1_4)) [] (btw (127 + (a2)) 8 ++ drP ((w3)) ((a2)) ((x20_3))) := by assumption
    refine Ew_of (pc' := 21) (fun _ => x_iload_n rfl l20_3) ?_
    refine Ew_of (pc' := 22) (fun _ => x_iload_n rfl l20_2) ?_
    refine w_icmpge (t := 65) rfl rfl (show inr (x20_3) by omega) (show inr (a2) by omega) (fun b18 => ?_) (fun b18 => ?_)
    · have hfin : sc ((w20_2)) 0 ((y20_1_1)) = drB ((w3)) ((a2)) := drB_of j20_w (by omega) (by omega) (by omega) (by omega) (fun s x y => by have := hwg s x y; omega)
      have hbu := j20_w.1
      have hp0 : p2 (0 : Int) = 1 := by decide
      have hhz : (y20_1_4) = 0 := by omega
      have hhh : (y20_1_3) = 0 := by have h : (y20_1_3) < p2 ((y20_1_4)) := (by omega); rw [hhz, hp0] at h; omega
      exact w_ret rfl (k _ _ _ _ _ _ _ H O (SD_trans (SD_refl) (SD_glu (ι := [1, 2]) hD7 eD7 (by decide +kernel)) (any_subA (l' := [2]) rfl)) (SD_trans (SD_refl) (SD_glu (ι := [1, 2]) hN7 eN7 (by decide +kernel)) (any_subA (l' := [2]) rfl)) (SF_trans (SF_trans (SF_trans (SF_refl) (SF_glu (ι := [1, 2]) hS7 eF7 (by decide +kernel)) (any_sub (l' := [(1, 0)]) rfl)) (SF_glu (ι := [1, 2]) hS9 eF9 (by decide +kernel)) (any_sub (l' := [(1, 1), (1, 2), (1, 3), (1, 4)]) rfl)) hS_20 (any_sub rfl)) (SA_trans (SA_trans (SA_trans (SA_refl) (SA_glu (ι := [1, 2]) hA7 eA7 (by decide +kernel)) (any_subA (l' := [2]) rfl)) (SA_glu (ι := [1, 2]) hA9 eA9 (by decide +kernel)) (any_subA (l' := [2]) rfl)) hA_20 (any_subA rfl)) ((((hS_20 1 0 rfl).trans ((show F9 1 0 = F7 1 0 from (eF9 1 0).trans (hS9 0 0 rfl))))).trans (pf7_1_0)) (m7_1) ((congrArg (fun q : Nat => (q : Int)) (eN7 2)).trans em7_1) (y20_1_1) ((ey20_1_1)) (y20_1_2) ((ey20_1_2)) (y20_1_3) ((ey20_1_3)) (y20_1_4) ((ey20_1_4)) (w20_2) (ew20_2) (show 0 ≤ (y20_1_1) ∧ (y20_1_1) ≤ (m7_1) ∧ (m7_1) ≤ 65536 by omega) (show 0 ≤ (y20_1_4) ∧ (y20_1_4) ≤ 7 by omega) (show (u1_1) ≤ (y20_1_1) by omega) (show (y20_1_4) = 0 ∧ (y20_1_3) = 0 ∧ (y20_1_2) = 0 by omega) (show sc ((w20_2)) 0 ((y20_1_1)) = drB ((w3)) (a2) by assumption))
    · refine Ew_of (pc' := 26) (fun _ => x_aload_n rfl l20_1) ?_
      refine Ew_of (pc' := 27) (fun _ => x_aload_n rfl l20_0) ?_
      refine v_g H (o := 0) (v := .ref (D7 3)) rfl rfl rfl rfl rfl (vrf ((((hS_20 0 4 rfl).trans ((show F9 0 4 = F7 0 4 from (eF9 0 4))))).trans (pf7_0_4))) ?_
      refine Ew_of (pc' := 31) (fun _ => x_iload_n rfl l20_3) ?_
      refine v_lI H (o := 3) rfl rfl rfl rfl (n := n3) ((congrArg (fun q : Nat => (q : Int)) (show N7 3 = N 3 from (eN7 3))).trans (en3)) (show 0 ≤ x20_3 ∧ x20_3 < n3 by omega) (fun v19 ev19 qv19 => ?_)
      have ev19 : (w3) (x20_3) = v19 := (congrFun ((funext (hA_20 3 rfl)).trans (((show A9 3 = A7 3 from (eA9 3))).trans (((show A7 3 = A 3 from (eA7 3))).trans (ew3)))) (x20_3)).symm.trans ev19
      have hwx := hwg ((x20_3)) (by omega) (by omega)
      have hex := ev19
      rw [hex] at hwx
      obtain ⟨xv, hxv⟩ : ∃ x : Int, x = (v19) := ⟨_, rfl⟩
      have hxx : ((w3)) ((x20_3)) = xv := by rw [hxv]; exact hex
      refine Ew_of (pc' := 33) (fun _ => x_iconst rfl) ?_
      refine w_ishlE rfl ?_
      have g20 : inr (slI (v19) (4)) := toI_inr _
      refine Ew_of (pc' := 35) (fun _ => x_iload_n rfl l20_3) ?_
      refine Ew_of (pc' := 36) (fun _ => x_iconst rfl) ?_
      refine w_iadd rfl ?_
      refine Ew_of (pc' := 38) (fun _ => x_iload_n rfl l20_2) ?_
      have hc53 : ∀ (tc53_0 : Int), ∀ (ls : rO) (σ : rS) (F_c53 : hF) (A_c53 : hA) , rlook ls 0 = some (.ref (D7 0)) → rlook ls 1 = some (.ref (D7 1)) → rlook ls 2 = some (I (a2)) → rlook ls 3 = some (I (x20_3)) → HW V105_Row σ D7 N7 F_c53 A_c53 → OUT (V105_Row).length D N σE c s D7 N7 σ (c + c7) (s + s7) → SF [] F_20 F_c53 → SA [] A_20 A_c53 → (inr (tc53_0)) → (0 ≤ (tc53_0) ∧ (tc53_0) ≤ 15) → (((x20_3) + 1 < (a2) ∧ ((w3)) ((x20_3) + 1) = (tc53_0) ∨ (a2) ≤ (x20_3) + 1 ∧ ((tc53_0) : Int) = 0)) → Ew 105 (d + 2) 53 ls [I (tc53_0), I ((slI (v19) (4))), .ref (D7 1)] σ (c + c7) (s + s7) Q := by
       as_aux_lemma =>
        intro tc53_0 ls σ F_c53 A_c53  lc53_0 lc53_1 lc53_2 lc53_3 H O hS_c53 hA_c53     jc53_0 jc53_1 jc53_2
        have hyj : ((x20_3) + 1 < (a2) ∧ ((w3)) ((x20_3) + 1) = (tc53_0) ∨ (a2) ≤ (x20_3) + 1 ∧ ((tc53_0) : Int) = 0) := by assumption
        obtain ⟨yv, hyv⟩ : ∃ y : Int, y = (tc53_0) := ⟨_, rfl⟩
        have hyc : (x20_3) + 1 < (a2) ∧ ((w3)) ((x20_3) + 1) = yv ∨ (a2) ≤ (x20_3) + 1 ∧ yv = 0 := by rw [hyv]; exact hyj
        refine w_iorE rfl ?_
        have g21 : inr (orI ((slI (v19) (4))) (tc53_0)) := toI_inr _
        obtain ⟨qv, hqv⟩ : ∃ q : Int, q = ((orI ((slI (v19) (4))) (tc53_0))) := ⟨_, rfl⟩
        rw [← hqv]
        have gqv : inr qv := by rw [hqv]; first | assumption | omega
        replace hqv : IMP True (qv = ((orI ((slI (v19) (4))) (tc53_0)))) := fun _ => hqv
        try clear g21
        try clear g20
        refine Ew_of (pc' := 56) (fun _ => x_bipush (z := 8) rfl (by decide)) ?_
        have hqw : qv = 16 * xv + yv := (hqv trivial).trans (by rw [hxv, hyv]; exact orI_84 (by omega) (by omega))
        refine v_inv H (o := 1) rfl rfl rfl rfl rfl rfl (by rfl) (C164 (D := pul [1, 2] D7) (N := pul [1, 2] N7) (HW_sub H (VS_of (show vsub V105_Row V164 [1, 2] = true by decide +kernel))) (((((hS_c53 1 0 rfl).trans (hS_20 1 0 rfl)).trans ((show F9 1 0 = F7 1 0 from (eF9 1 0).trans (hS9 0 0 rfl))))).trans (pf7_1_0)) (m7_1) ((congrArg (fun q : Nat => (q : Int)) (eN7 2)).trans em7_1) (y20_1_1) (((hS_c53 1 1 rfl).trans (ey20_1_1))) (y20_1_2) (((hS_c53 1 2 rfl).trans (ey20_1_2))) (y20_1_3) (((hS_c53 1 3 rfl).trans (ey20_1_3))) (y20_1_4) (((hS_c53 1 4 rfl).trans (ey20_1_4))) (w20_2) ((funext (hA_c53 2 rfl)).trans (ew20_2)) (show inr (qv) by omega) (show inr (8) by omega) (show 0 ≤ (y20_1_1) ∧ (y20_1_1) ≤ (m7_1) ∧ (m7_1) ≤ 65536 by omega) (show 0 ≤ (8) ∧ (8) ≤ 31 by omega) (show 0 ≤ (y20_1_4) ∧ (y20_1_4) ≤ 7 by omega) (fun σ22 F22' A22' H' O' hS22 hA22 y22_0_1 ey22_0_1 y22_0_2 ey22_0_2 y22_0_3 ey22_0_3 y22_0_4 ey22_0_4 w22_1 ew22_1 pz22_0 pz22_1 pz22_2 pz22_3 => ⟨rfl, ?_⟩))
        refine v_back (c := (c + c7)) (s := (s + s7)) H (show vsub V105_Row V164 [1, 2] = true by decide +kernel) H' O' (fun F22 A22 H O' eF22 eA22 => ?_)
        have O := OUT_trans O O'
        -- Row.addBits
        have r23 : (-2147483648 : Int) ≤ y22_0_1 ∧ y22_0_1 ≤ 2147483647 := by have h1 : (-2147483648 : Int) ≤ F22 1 1 ∧ F22 1 1 ≤ 2147483647 := H.krg 1 1 (by decide); rw [show F22 1 1 = y22_0_1 from ((eF22 1 1).trans ey22_0_1)] at h1; exact h1
        have r24 : (0 : Int) ≤ y22_0_2 ∧ y22_0_2 ≤ 1 := by have h1 : (0 : Int) ≤ F22 1 2 ∧ F22 1 2 ≤ 1 := H.krg 1 2 (by decide); rw [show F22 1 2 = y22_0_2 from ((eF22 1 2).trans ey22_0_2)] at h1; exact h1
        have r25 : (-2147483648 : Int) ≤ y22_0_3 ∧ y22_0_3 ≤ 2147483647 := by have h1 : (-2147483648 : Int) ≤ F22 1 3 ∧ F22 1 3 ≤ 2147483647 := H.krg 1 3 (by decide); rw [show F22 1 3 = y22_0_3 from ((eF22 1 3).trans ey22_0_3)] at h1; exact h1
        have r26 : (-2147483648 : Int) ≤ y22_0_4 ∧ y22_0_4 ≤ 2147483647 := by have h1 : (-2147483648 : Int) ≤ F22 1 4 ∧ F22 1 4 ≤ 2147483647 := H.krg 1 4 (by decide); rw [show F22 1 4 = y22_0_4 from ((eF22 1 4).trans ey22_0_4)] at h1; exact h1
        have ha59 := pz22_3 ⟨by omega, by omega, by omega, by omega⟩
        have hB59 : RBB ((y22_0_2)) ((w22_1)) ((y22_0_1)) ((y22_0_3)) ((y22_0_4)) [] (btw (127 + (a2)) 8 ++ drP ((w3)) ((a2)) ((x20_3) + 2)) := by have h := ha59.1 _ _ j20_w; rw [drP_s (w := ((w3))) (k := (a2)) (i := (x20_3)) (j := (x20_3) + 2) (by omega) (by omega) rfl hxx hyc, ← List.append_assoc, ← hqw]; exact h
        have hn59 := ha59.2.1
        have hm59 := ha59.2.2
        refine Ew_of (pc' := 62) (fun _ => x_iinc (len := 3) rfl (lc53_3)) ?_
        refine Ew_of (pc' := 20) (fun _ => x_goto rfl rfl) ?_
        have : RBB ((y22_0_2)) ((w22_1)) ((y22_0_1)) ((y22_0_3)) ((y22_0_4)) [] (btw (127 + (a2)) 8 ++ drP ((w3)) ((a2)) (((x20_3 + 2)))) := hB59
        exact ih20 _ (by omega) _ _ _ _ ((x20_3 + 2)) (rk_o (lc53_0) rfl rfl) (rk_o (lc53_1) rfl rfl) (rk_o (lc53_2) rfl rfl) (rk_s) H O (SF_trans (SF_trans (hS_20) hS_c53 (any_sub rfl)) (SF_glu (ι := [1, 2]) hS22 eF22 (by decide +kernel)) (any_sub (l' := [(1, 1), (1, 2), (1, 3), (1, 4)]) rfl)) (SA_trans (SA_trans (hA_20) hA_c53 (any_subA rfl)) (SA_glu (ι := [1, 2]) hA22 eA22 (by decide +kernel)) (any_subA (l' := [2]) rfl))   (y22_0_1) (((eF22 1 1).trans ey22_0_1)) (y22_0_2) (((eF22 1 2).trans ey22_0_2)) (y22_0_3) (((eF22 1 3).trans ey22_0_3)) (y22_0_4) (((eF22 1 4).trans ey22_0_4)) (w22_1) ((eA22 2).trans ew22_1) (show inr ((x20_3 + 2)) by omega) (show 0 ≤ ((x20_3 + 2)) ∧ ((x20_3 + 2)) ≤ (a2) + 1 by omega) (show ((x20_3 + 2)) % 2 = 0 by omega) (show 0 ≤ (y22_0_1) ∧ (y22_0_1) ≤ (m7_1) ∧ (m7_1) ≤ 65536 by omega) (show 0 ≤ (y22_0_4) ∧ (y22_0_4) ≤ 7 by omega) (show (u1_1) ≤ (y22_0_1) by omega) (show 1 + (a2) ≤ (m7_1) by omega) (show 0 ≤ (y22_0_3) ∧ (y22_0_3) < p2 ((y22_0_4)) by omega) (show 8 * (y22_0_1) + (y22_0_4) = 8 + 4 * ((x20_3 + 2)) by omega) (show RBB ((y22_0_2)) ((w22_1)) ((y22_0_1)) ((y22_0_3)) ((y22_0_4)) [] (btw (127 + (a2)) 8 ++ drP ((w3)) ((a2)) (((x20_3 + 2)))) by assumption) rfl
      refine w_icmpge (t := 52) rfl rfl (show inr ((x20_3 + 1)) by omega) (show inr (a2) by omega) (fun b27 => ?_) (fun b27 => ?_)
      · refine Ew_of (pc' := 53) (fun _ => x_iconst rfl) ?_
        have : ((x20_3) + 1 < (a2) ∧ ((w3)) ((x20_3) + 1) = (0) ∨ (a2) ≤ (x20_3) + 1 ∧ ((0) : Int) = 0) := by first | exact .inl ⟨by omega, hy49⟩ | exact .inr ⟨by omega, rfl⟩
        exact hc53 (0) _ _ _ _  (l20_0) (l20_1) (l20_2) (l20_3) H O (SF_refl) (SA_refl)     (show inr (0) by omega) (show 0 ≤ (0) ∧ (0) ≤ 15 by omega) (show ((x20_3) + 1 < (a2) ∧ ((w3)) ((x20_3) + 1) = (0) ∨ (a2) ≤ (x20_3) + 1 ∧ ((0) : Int) = 0) by assumption)
      · refine Ew_of (pc' := 42) (fun _ => x_aload_n rfl l20_0) ?_
        refine v_g H (o := 0) (v := .ref (D7 3)) rfl rfl rfl rfl rfl (vrf ((((hS_20 0 4 rfl).trans ((show F9 0 4 = F7 0 4 from (eF9 0 4))))).trans (pf7_0_4))) ?_
        refine Ew_of (pc' := 46) (fun _ => x_iload_n rfl l20_3) ?_
        refine Ew_of (pc' := 47) (fun _ => x_iconst rfl) ?_
        refine w_iadd rfl ?_
        refine v_lI H (o := 3) rfl rfl rfl rfl (n := n3) ((congrArg (fun q : Nat => (q : Int)) (show N7 3 = N 3 from (eN7 3))).trans (en3)) (show 0 ≤ (x20_3 + 1) ∧ (x20_3 + 1) < n3 by omega) (fun v28 ev28 qv28 => ?_)
        have ev28 : (w3) ((x20_3 + 1)) = v28 := (congrFun ((funext (hA_20 3 rfl)).trans (((show A9 3 = A7 3 from (eA9 3))).trans (((show A7 3 = A 3 from (eA7 3))).trans (ew3)))) ((x20_3 + 1))).symm.trans ev28
        have hwy := hwg ((x20_3) + 1) (by omega) (by omega)
        have hy49 := ev28
        rw [hy49] at hwy
        refine Ew_of (pc' := 53) (fun _ => x_goto rfl rfl) ?_
        have : ((x20_3) + 1 < (a2) ∧ ((w3)) ((x20_3) + 1) = (v28) ∨ (a2) ≤ (x20_3) + 1 ∧ ((v28) : Int) = 0) := by first | exact .inl ⟨by omega, hy49⟩ | exact .inr ⟨by omega, rfl⟩
        exact hc53 (v28) _ _ _ _  (l20_0) (l20_1) (l20_2) (l20_3) H O (SF_refl) (SA_refl)     (show inr (v28) by omega) (show 0 ≤ (v28) ∧ (v28) ≤ 15 by omega) (show ((x20_3) + 1 < (a2) ∧ ((w3)) ((x20_3) + 1) = (v28) ∨ (a2) ≤ (x20_3) + 1 ∧ ((v28) : Int) = 0) by assumption)
