abbrev V107_Br : vV := [(0, 3, [(4, 0), (4, 0), (4, 0), (0, 0), (4, 0), (4, 0), (4, 0), (4, 0), (4, 0), (4, 0), (4, 0), (4, 0), (4, 0), (0, 0), (0, 0), (0, 0), (0, 0)]), (1, 0, []), (1, 1, []), (1, 1, []), (1, 1, []), (1, 1, []), (0, 8, [(0, 0), (0, 0), (4, 0), (4, 0), (4, 0), (4, 0), (4, 0), (4, 0), (4, 0), (4, 0), (4, 0), (0, 0), (0, 0)]), (1, 1, []), (1, 1, []), (1, 1, []), (1, 1, []), (1, 1, []), (1, 1, []), (1, 1, []), (1, 1, []), (0, 2, [(4, 0), (0, 0), (0, 0)])]
theorem len_V107_Br_oz_F4cls : (V107_Br).length = 16 := by decide +kernel
theorem oz_F4cls_1 : vsub V107_Br V109 [0, 2, 3, 4, 5] = true := by decide +kernel
theorem oz_F4cls_2 : vsub V107_Br V108_Br [0, 1, 2, 6, 7, 8, 9, 10, 11, 12, 13, 14, 15] = true := by decide +kernel
def oz_F4clsl_0 : List (Nat × Nat) := [(0, 3), (6, 0), (6, 10), (6, 11), (6, 12), (15, 0), (15, 1), (15, 2)]
theorem oz_F4cls_3 : (oz_F4clsl_0).all (fun p => !tbz 21852239852211945619671180608552164140240186998654798056014098717377602171738359340887143263785430912514727292224822120805173615936380660566982664 (Nat.add (Nat.mul 32 p.1) p.2)) = true := by decide +kernel
def oz_F4clsl_1 : List Nat := [2, 3, 4, 5, 7, 8, 9, 10, 11, 12, 13, 14]
theorem oz_F4cls_4 : (oz_F4clsl_1).all (fun p => !tbz 32700 p) = true := by decide +kernel
def oz_F4clsl_2 : List Nat := [0, 2, 3, 4, 5]
theorem oz_F4cls_5 : okc oz_F4clsl_2 344135042048 = true := by decide +kernel
def oz_F4clsl_3 : List Nat := [0, 1, 2, 6, 7, 8, 9, 10, 11, 12, 13, 14, 15]
theorem oz_F4cls_6 : okc oz_F4clsl_3 4876667981364767315695969161970176 = true := by decide +kernel
set_option maxHeartbeats 16000000 in
/-- Codes.hear: this, #1, this.weights, this.lengths, this.codes, this.cells, this.weightShare, this.weightShare.points, this.weightShare.masses, this.weightShare.mostBits, this.weightShare.starts, this.weightShare.used, this.weightShare.numberAt, this.weightShare.symbolAt, this.weightShare.placeOf, this.source -/
theorem C107_Br {σE : rS} {D N : Nat → Nat} {F : hF} {A : hA} {d c s : Nat} {Q : wQ} (H : HW V107_Br σE D N F A) {a2 a3 : Int} (pf2 : F 0 4 = (D 2 : Int)) (pf3 : F 0 0 = (D 3 : Int)) (pf4 : F 0 1 = (D 4 : Int)) (pf5 : F 0 2 = (D 5 : Int)) (pf6 : F 0 6 = (D 6 : Int)) (pf7 : F 6 2 = (D 7 : Int)) (pf8 : F 6 3 = (D 8 : Int)) (pf9 : F 6 4 = (D 9 : Int)) (pf10 : F 6 5 = (D 10 : Int)) (pf11 : F 6 6 = (D 11 : Int)) (pf12 : F 6 8 = (D 12 : Int)) (pf13 : F 6 7 = (D 13 : Int)) (pf14 : F 6 9 = (D 14 : Int)) (pf15 : F 0 9 = (D 15 : Int)) (n1 : Int) (en1 : (N 1 : Int) = n1) (n2 : Int) (en2 : (N 2 : Int) = n2) (n3 : Int) (en3 : (N 3 : Int) = n3) (n4 : Int) (en4 : (N 4 : Int) = n4) (n5 : Int) (en5 : (N 5 : Int) = n5) (n7 : Int) (en7 : (N 7 : Int) = n7) (n8 : Int) (en8 : (N 8 : Int) = n8) (n9 : Int) (en9 : (N 9 : Int) = n9) (n10 : Int) (en10 : (N 10 : Int) = n10) (n11 : Int) (en11 : (N 11 : Int) = n11) (n12 : Int) (en12 : (N 12 : Int) = n12) (n13 : Int) (en13 : (N 13 : Int) = n13) (n14 : Int) (en14 : (N 14 : Int) = n14) (u0_3 : Int) (eu0_3 : F 0 3 = u0_3) (u6_1 : Int) (eu6_1 : F 6 1 = u6_1) (w3 : Int → Int) (ew3 : A 3 = w3) (w5 : Int → Int) (ew5 : A 5 = w5) (h0 : inr (a2)) (h1 : inr (a3)) (h2 : 0 ≤ (a2) ∧ (a2) ≤ 65536 ∧ 0 ≤ (a3) ∧ (a3) ≤ (n1) ∧ (n1) ≤ 65536) (h3 : (n2) = 256 ∧ (n3) = 256 ∧ (n4) = 256 ∧ (n5) = 2048) (h4 : (n7) = (u6_1) ∧ (n8) = (u6_1) ∧ (n9) = (u6_1) ∧ (n10) = (u6_1) ∧ (n11) = (u6_1) ∧ (n12) = (n13) ∧ (n14) = (n13) ∧ 1 ≤ (u6_1) ∧ (u6_1) ≤ 64 ∧ (u6_1) = 12 ∧ (n13) = 64) (h5 : CEL ((w5))) (k : ∀ (z : Int) (σ : rS) (Fₚ : hF) (Aₚ : hA), HW V107_Br σ D N Fₚ Aₚ → OUT (V107_Br).length D N σE c s D N σ c s → SF [(0, 3), (6, 0), (6, 10), (6, 11), (6, 12), (15, 0), (15, 1), (15, 2)] F Fₚ → SA [2, 3, 4, 5, 7, 8, 9, 10, 11, 12, 13, 14] A Aₚ → ∀ y0_3 : Int, Fₚ 0 3 = y0_3 → ∀ v3 : Int → Int, Aₚ 3 = v3 → ∀ v5 : Int → Int, Aₚ 5 = v5 → (inr (z)) → ((z) = -1 ∨ (a2) < (z) ∧ (z) ≤ (a3)) → (CEL ((v5))) → ((z) = -1 ∨ 0 ≤ (y0_3) ∧ (y0_3) ≤ 11) → ((z) = -1 ∨ LNG ((v3)) ((y0_3))) → Q (some (I z)) σ c s) : Ew 107 (d + 4) 0 (rargs 0 [.ref (D 0), .ref (D 1), I a2, I a3]) [] σE c s Q := by
  have O := OUT_refl (n := (V107_Br).length) (D := D) (N := N) (σ := σE) (c := c) (s := s)
  have HE := H
  have r1 : (-2147483648 : Int) ≤ u0_3 ∧ u0_3 ≤ 2147483647 := rngE (show (-2147483648 : Int) ≤ F 0 3 ∧ F 0 3 ≤ 2147483647 from H.krg 0 3 (ltn len_V107_Br_oz_F4cls rfl)) (show F 0 3 = u0_3 from (eu0_3))
  have r2 : (-2147483648 : Int) ≤ u6_1 ∧ u6_1 ≤ 2147483647 := rngE (show (-2147483648 : Int) ≤ F 6 1 ∧ F 6 1 ≤ 2147483647 from H.krg 6 1 (ltn len_V107_Br_oz_F4cls rfl)) (show F 6 1 = u6_1 from (eu6_1))
  have r3 : (0 : Int) ≤ n1 ∧ n1 ≤ 1000000 := nleE (H.nle 1 (ltn len_V107_Br_oz_F4cls rfl)) (show (N 1 : Int) = n1 from en1)
  have r4 : (0 : Int) ≤ n2 ∧ n2 ≤ 1000000 := nleE (H.nle 2 (ltn len_V107_Br_oz_F4cls rfl)) (show (N 2 : Int) = n2 from en2)
  have r5 : (0 : Int) ≤ n3 ∧ n3 ≤ 1000000 := nleE (H.nle 3 (ltn len_V107_Br_oz_F4cls rfl)) (show (N 3 : Int) = n3 from en3)
  have r6 : (0 : Int) ≤ n4 ∧ n4 ≤ 1000000 := nleE (H.nle 4 (ltn len_V107_Br_oz_F4cls rfl)) (show (N 4 : Int) = n4 from en4)
  have r7 : (0 : Int) ≤ n5 ∧ n5 ≤ 1000000 := nleE (H.nle 5 (ltn len_V107_Br_oz_F4cls rfl)) (show (N 5 : Int) = n5 from en5)
  have r8 : (0 : Int) ≤ n7 ∧ n7 ≤ 1000000 := nleE (H.nle 7 (ltn len_V107_Br_oz_F4cls rfl)) (show (N 7 : Int) = n7 from en7)
  have r9 : (0 : Int) ≤ n8 ∧ n8 ≤ 1000000 := nleE (H.nle 8 (ltn len_V107_Br_oz_F4cls rfl)) (show (N 8 : Int) = n8 from en8)
  have r10 : (0 : Int) ≤ n9 ∧ n9 ≤ 1000000 := nleE (H.nle 9 (ltn len_V107_Br_oz_F4cls rfl)) (show (N 9 : Int) = n9 from en9)
  have r11 : (0 : Int) ≤ n10 ∧ n10 ≤ 1000000 := nleE (H.nle 10 (ltn len_V107_Br_oz_F4cls rfl)) (show (N 10 : Int) = n10 from en10)
  have r12 : (0 : Int) ≤ n11 ∧ n11 ≤ 1000000 := nleE (H.nle 11 (ltn len_V107_Br_oz_F4cls rfl)) (show (N 11 : Int) = n11 from en11)
  have r13 : (0 : Int) ≤ n12 ∧ n12 ≤ 1000000 := nleE (H.nle 12 (ltn len_V107_Br_oz_F4cls rfl)) (show (N 12 : Int) = n12 from en12)
  have r14 : (0 : Int) ≤ n13 ∧ n13 ≤ 1000000 := nleE (H.nle 13 (ltn len_V107_Br_oz_F4cls rfl)) (show (N 13 : Int) = n13 from en13)
  have r15 : (0 : Int) ≤ n14 ∧ n14 ≤ 1000000 := nleE (H.nle 14 (ltn len_V107_Br_oz_F4cls rfl)) (show (N 14 : Int) = n14 from en14)
  refine Ew_of (pcₚ := 1) (fun _ => x_iload_n rfl rfl) ?_
  refine Ew_of (pcₚ := 2) (fun _ => x_iload_n rfl rfl) ?_
  refine w_icmplt (t := 7) rfl rfl (show inr (a2) from h0) (show inr (a3) from h1) (fun b16 => ?_) (fun b16 => ?_)
  · refine Ew_of (pcₚ := 8) (fun _ => x_aload_n rfl rfl) ?_
    refine Ew_of (pcₚ := 9) (fun _ => x_iload_n rfl rfl) ?_
    refine v_lB H (o := 1) rfl rfl rfl rfl (n := n1) (en1) (show 0 ≤ a2 ∧ a2 < n1 from q_3388 b16 h2) (fun v17 ev17 qv17 => ?_)
    have ev17 : (A 1) (a2) = v17 := (congrFun (rfl : A 1 = A 1) (a2)).symm.trans ev17
    refine Ew_of (pcₚ := 13) (fun _ => x_sipush (z := 255) rfl (by decide)) ?_
    refine w_iand rfl (show inr (v17) from q_2536 qv17) (show inr (255) from q_36) (fun z18 gz18 gaz18 gbz18 => ?_)
    refine Ew_of (pcₚ := 16) (fun _ => x_istore rfl) ?_
    refine Ew_of (pcₚ := 18) (fun _ => x_iload rfl rk_s) ?_
    refine Ew_of (pcₚ := 20) (fun _ => x_bipush (z := 127) rfl (by decide)) ?_
    refine w_isub rfl ?_
    refine Ew_of (pcₚ := 23) (fun _ => x_istore rfl) ?_
    refine Ew_of (pcₚ := 24) (fun _ => x_iload_n rfl (rk_o (rk_o (rfl) rfl rfl) rfl rfl)) ?_
    refine Ew_of (pcₚ := 25) (fun _ => x_iconst rfl) ?_
    refine w_iadd rfl ?_
    refine Ew_of (pcₚ := 28) (fun _ => x_iload rfl rk_s) ?_
    have hc42 : ∀ (tc42_0 : Int), ∀ (ls : rO) (σ : rS) (F_c42 : hF) (A_c42 : hA) , rlook ls 0 = some (.ref (D 0)) → rlook ls 1 = some (.ref (D 1)) → rlook ls 2 = some (I (a2)) → rlook ls 3 = some (I (a3)) → rlook ls 5 = some (I ((z18 - 127))) → HW V107_Br σ D N F_c42 A_c42 → OUT (V107_Br).length D N σE c s D N σ c s → SF [] F F_c42 → SA [] A A_c42 → (inr (tc42_0)) → ((((z18 - 127)) ≤ (0) ∧ (tc42_0) = (z18)) ∨ (((z18 - 127)) > (0) ∧ (tc42_0) = ((((z18 - 127) + 1) / 2)))) → Ew 107 (d + 4) 42 ls [I (tc42_0), I ((a2 + 1))] σ c s Q := by
     as_aux_lemma =>
      intro tc42_0 ls σ F_c42 A_c42  lc42_0 lc42_1 lc42_2 lc42_3 lc42_5 H O hS_c42 hA_c42     jc42_0 jc42_1
      have cF_c42 : SF oz_F4clsl_0 F F_c42 := SF_trans (SF_refl) hS_c42 (any_sub (by decide +kernel))
      have mF_c42 := SFm_of cF_c42 oz_F4cls_3
      have cA_c42 : SA oz_F4clsl_1 A A_c42 := SA_trans (SA_refl) hA_c42 (any_subA (by decide +kernel))
      have mA_c42 := SAm_of cA_c42 oz_F4cls_4
      refine w_iadd rfl ?_
      refine Ew_of (pcₚ := 45) (fun _ => x_istore rfl) ?_
      refine Ew_of (pcₚ := 47) (fun _ => x_iload rfl rk_s) ?_
      refine Ew_of (pcₚ := 48) (fun _ => x_iload_n rfl (rk_o (lc42_3) rfl rfl)) ?_
      refine w_icmple (t := 53) rfl rfl (show inr (((a2 + 1) + tc42_0)) from q_3389 gz18 h2 jc42_0 jc42_1) (show inr (a3) from h1) (fun b19 => ?_) (fun b19 => ?_)
      · refine Ew_of (pcₚ := 55) (fun _ => x_iload rfl (rk_o (lc42_5) rfl rfl)) ?_
        refine w_ifgt (t := 91) rfl rfl (show inr ((z18 - 127)) by omega) (fun b20 => ?_) (fun b20 => ?_)
        · refine Ew_of (pcₚ := 92) (fun _ => x_iconst rfl) ?_
          refine Ew_of (pcₚ := 94) (fun _ => x_istore rfl) ?_
          have hw0 : WTS ((A 2)) 0 := fun i a b => by omega
          suffices hl94 : ∀ (m : Nat), ∀ (ls : rO) (σ : rS) (F_94 : hF) (A_94 : hA) (x94_7 : Int), rlook ls 0 = some (.ref (D 0)) → rlook ls 1 = some (.ref (D 1)) → rlook ls 2 = some (I (a2)) → rlook ls 5 = some (I ((z18 - 127))) → rlook ls 6 = some (I (((a2 + 1) + tc42_0))) → rlook ls 7 = some (I (x94_7)) → HW V107_Br σ D N F_94 A_94 → OUT (V107_Br).length D N σE c s D N σ c s → SF [] F_c42 F_94 → SA [2] A_c42 A_94 → ∀ w94_2 : Int → Int, A_94 2 = w94_2 → (inr (x94_7)) → ((0) ≤ (x94_7)) → ((x94_7) ≤ (0) ∨ (x94_7) ≤ (((z18 - 127)))) → (WTS ((w94_2)) (x94_7)) → ((((z18 - 127))) - (x94_7)).toNat = m → Ew 107 (d + 4) 94 ls [] σ c s Q from
            hl94 _ _ _ _ _ (0) (rk_o (rk_o (lc42_0) rfl rfl) rfl rfl) (rk_o (rk_o (lc42_1) rfl rfl) rfl rfl) (rk_o (rk_o (lc42_2) rfl rfl) rfl rfl) (rk_o (rk_o (lc42_5) rfl rfl) rfl rfl) (rk_o (rk_s) rfl rfl) (rk_s) H O (SF_refl) (SA_refl)    (A 2) (funext (hA_c42 2 rfl)) (show inr (0) from q_20) (show (0) ≤ (0) from q_25) (show (0) ≤ (0) ∨ (0) ≤ (((z18 - 127))) from q_1222) (show WTS ((A 2)) (0) from hw0) rfl
          as_aux_lemma =>
          intro m
          induction m using Nat.strongRecOn with
          | _ m ih94 =>
            intro ls σ F_94 A_94 x94_7 l94_0 l94_1 l94_2 l94_5 l94_6 l94_7 H O hS_94 hA_94    w94_2 ew94_2 j94_0 j94_1 j94_2 j94_3 hm94
            have cF_94 : SF oz_F4clsl_0 F F_94 := SF_trans (cF_c42) hS_94 (any_sub (by decide +kernel))
            have mF_94 := SFm_of cF_94 oz_F4cls_3
            have cA_94 : SA oz_F4clsl_1 A A_94 := SA_trans (cA_c42) hA_94 (any_subA (by decide +kernel))
            have mA_94 := SAm_of cA_94 oz_F4cls_4
            refine Ew_of (pcₚ := 96) (fun _ => x_iload rfl l94_7) ?_
            refine Ew_of (pcₚ := 98) (fun _ => x_iload rfl l94_5) ?_
            refine w_icmpge (t := 149) rfl rfl (show inr (x94_7) from j94_0) (show inr ((z18 - 127)) from q_3390 b20 gz18) (fun b21 => ?_) (fun b21 => ?_)
            · have hl7 : (x94_7) = ((z18 - 127)) := q_3391 b20 b21 j94_2
              have hwt : WTS ((w94_2)) (((z18 - 127))) := by rw [← hl7]; assumption
              refine Ew_of (pcₚ := 150) (fun _ => x_aload_n rfl l94_0) ?_
              refine Ew_of (pcₚ := 152) (fun _ => x_iload rfl l94_5) ?_
              refine v_inv H (o := 0) rfl rfl rfl rfl rfl rfl (by rfl) (C109 (D := puc 344135042048 D) (N := puc 344135042048 N) (HW_subc H oz_F4cls_1 oz_F4cls_5) ((mF_94 0 4 rfl).trans (pf2)) ((mF_94 0 0 rfl).trans (pf3)) ((mF_94 0 1 rfl).trans (pf4)) ((mF_94 0 2 rfl).trans (pf5)) (n2) (en2) (n3) (en3) (n4) (en4) (n5) (en5) (u0_3) ((((hS_94 0 3 rfl).trans (hS_c42 0 3 rfl)).trans (eu0_3))) (w94_2) (ew94_2) (w3) ((funext (hA_94 3 rfl)).trans ((funext (hA_c42 3 rfl)).trans (ew3))) (w5) ((funext (hA_94 5 rfl)).trans ((funext (hA_c42 5 rfl)).trans (ew5))) (show inr ((z18 - 127)) from q_3390 b20 gz18) (show (n2) = 256 ∧ (n3) = 256 ∧ (n4) = 256 ∧ (n5) = 2048 from h3) (show 1 ≤ ((z18 - 127)) ∧ ((z18 - 127)) ≤ 255 by omega) (show WTS ((w94_2)) ((z18 - 127)) from hwt) (show CEL ((w5)) from h5) (fun z22 σ22 F22ₚ A22ₚ Hₚ Oₚ hS22 hA22 y22_0_3 ey22_0_3 w22_2 ew22_2 w22_4 ew22_4 pz22_0 pz22_1 pz22_2 pz22_3 => ⟨rretB rfl pz22_0, ?_⟩))
              refine v_backc (c := c) (s := s) H oz_F4cls_1 oz_F4cls_5 Hₚ Oₚ (fun F22 A22 H Oₚ eF22 eA22 => ?_)
              have O := OUT_trans O Oₚ
              -- Codes.complete
              have cF22 : SF oz_F4clsl_0 F F22 := SF_trans (cF_94) (SF_gluc (ι := oz_F4clsl_2) oz_F4cls_5 hS22 eF22 (by decide +kernel)) (any_sub (lₚ := [(0, 3)]) (by decide +kernel))
              have mF22 := SFm_of cF22 oz_F4cls_3
              have cA22 : SA oz_F4clsl_1 A A22 := SA_trans (cA_94) (SA_gluc (ι := oz_F4clsl_2) oz_F4cls_5 hA22 eA22 (by decide +kernel)) (any_subA (lₚ := [2, 3, 4, 5]) (by decide +kernel))
              have mA22 := SAm_of cA22 oz_F4cls_4
              have r23 : (-2147483648 : Int) ≤ y22_0_3 ∧ y22_0_3 ≤ 2147483647 := rngE (show (-2147483648 : Int) ≤ F22 0 3 ∧ F22 0 3 ≤ 2147483647 from H.krg 0 3 (ltn len_V107_Br_oz_F4cls rfl)) (show F22 0 3 = y22_0_3 from ((eF22 0 3).trans ey22_0_3))
              refine w_ifeq (t := 163) rfl rfl (show inr (z22) from q_15 pz22_0) (fun b24 => ?_) (fun b24 => ?_)
              · have hno : (-1 : Int) = -1 ∨ LNG ((w22_2)) ((y22_0_3)) := .inl rfl
                refine Ew_of (pcₚ := 164) (fun _ => x_iconst rfl) ?_
                exact w_ireturn rfl (k ((-1)) _ _ _ H O (cF22) (cA22) (y22_0_3) (((eF22 0 3).trans ey22_0_3)) (w22_2) ((eA22 3).trans ew22_2) (w22_4) ((eA22 5).trans ew22_4) (show inr ((-1)) from q_16) (show ((-1)) = -1 ∨ a2 < ((-1)) ∧ ((-1)) ≤ a3 by first | exact q_1205 | omega) (show CEL ((w22_4)) from pz22_3) (show ((-1)) = -1 ∨ 0 ≤ (y22_0_3) ∧ (y22_0_3) ≤ 11 by first | exact q_3392 | omega) (show ((-1)) = -1 ∨ LNG ((w22_2)) ((y22_0_3)) by assumption))
              · have hyc : ((((a2 + 1) + tc42_0)) : Int) = -1 ∨ LNG ((w22_2)) ((y22_0_3)) := .inr (Or.resolve_left pz22_2 (by omega))
                refine Ew_of (pcₚ := 160) (fun _ => x_iload rfl l94_6) ?_
                refine Ew_of (pcₚ := 164) (fun _ => x_goto rfl rfl) ?_
                exact w_ireturn rfl (k (((a2 + 1) + tc42_0)) _ _ _ H O (cF22) (cA22) (y22_0_3) (((eF22 0 3).trans ey22_0_3)) (w22_2) ((eA22 3).trans ew22_2) (w22_4) ((eA22 5).trans ew22_4) (show inr (((a2 + 1) + tc42_0)) from q_3393 b19 h2 jc42_0) (show (((a2 + 1) + tc42_0)) = -1 ∨ a2 < (((a2 + 1) + tc42_0)) ∧ (((a2 + 1) + tc42_0)) ≤ a3 by omega) (show CEL ((w22_4)) from pz22_3) (show (((a2 + 1) + tc42_0)) = -1 ∨ 0 ≤ (y22_0_3) ∧ (y22_0_3) ≤ 11 by omega) (show (((a2 + 1) + tc42_0)) = -1 ∨ LNG ((w22_2)) ((y22_0_3)) from hyc))
            · refine Ew_of (pcₚ := 102) (fun _ => x_aload_n rfl l94_1) ?_
              refine Ew_of (pcₚ := 103) (fun _ => x_iload_n rfl l94_2) ?_
              refine Ew_of (pcₚ := 104) (fun _ => x_iconst rfl) ?_
              refine w_iadd rfl ?_
              refine Ew_of (pcₚ := 107) (fun _ => x_iload rfl l94_7) ?_
              refine Ew_of (pcₚ := 108) (fun _ => x_iconst rfl) ?_
              refine w_idiv rfl (show inr (x94_7) ∧ 0 ≤ x94_7 from q_968 j94_0 j94_1) (show inr (2) ∧ 0 < 2 from q_967) ?_
              refine w_iadd rfl ?_
              refine v_lB H (o := 1) rfl rfl rfl rfl (n := n1) (en1) (show 0 ≤ ((a2 + 1) + (x94_7 / 2)) ∧ ((a2 + 1) + (x94_7 / 2)) < n1 by omega) (fun v25 ev25 qv25 => ?_)
              have ev25 : (A 1) (((a2 + 1) + (x94_7 / 2))) = v25 := (congrFun (funext (mA_94 1 rfl)) (((a2 + 1) + (x94_7 / 2)))).symm.trans ev25
              refine Ew_of (pcₚ := 114) (fun _ => x_sipush (z := 255) rfl (by decide)) ?_
              refine w_iand rfl (show inr (v25) from q_2536 qv25) (show inr (255) from q_36) (fun z26 gz26 gaz26 gbz26 => ?_)
              refine Ew_of (pcₚ := 117) (fun _ => x_istore rfl) ?_
              refine Ew_of (pcₚ := 118) (fun _ => x_aload_n rfl (rk_o (l94_0) rfl rfl)) ?_
              refine v_g H (o := 0) (v := .ref (D 2)) rfl rfl rfl rfl rfl (vrf ((mF_94 0 4 rfl).trans (pf2))) ?_
              refine Ew_of (pcₚ := 123) (fun _ => x_iload rfl (rk_o (l94_7) rfl rfl)) ?_
              refine Ew_of (pcₚ := 125) (fun _ => x_iload rfl (rk_o (l94_7) rfl rfl)) ?_
              refine Ew_of (pcₚ := 126) (fun _ => x_iconst rfl) ?_
              refine w_irem rfl (show inr (x94_7) ∧ 0 ≤ x94_7 from q_968 j94_0 j94_1) (show inr (2) ∧ 0 < 2 from q_967) ?_
              refine w_ifne (t := 137) rfl rfl (show inr ((x94_7 % 2)) from q_1225) (fun b27 => ?_) (fun b27 => ?_)
              · refine Ew_of (pcₚ := 139) (fun _ => x_iload rfl rk_s) ?_
                refine Ew_of (pcₚ := 141) (fun _ => x_bipush (z := 15) rfl (by decide)) ?_
                refine w_iand rfl (show inr (z26) from gz26) (show inr (15) from q_143) (fun z28 gz28 gaz28 gbz28 => ?_)
                refine v_sI H (o := 2) (z := z28) rfl rfl rfl rfl (n := n2) (en2) (show 0 ≤ x94_7 ∧ x94_7 < n2 by omega) (show inr (z28) from gz28) (fun σ H Oₚ => ?_)
                have O := OUT_trans O Oₚ
                have cAu29 : SA oz_F4clsl_1 A (updA A_94 2 (x94_7) (z28)) := SA_upd (cA_94) rfl
                have mAu29 := SAm_of cAu29 oz_F4cls_4
                refine Ew_of (pcₚ := 146) (fun _ => x_iinc (len := 3) rfl (rk_o (l94_7) rfl rfl)) ?_
                refine Ew_of (pcₚ := 94) (fun _ => x_goto rfl rfl) ?_
                have hw1 : WTS ((upd1 (w94_2) (x94_7) (z28))) ((x94_7 + 1)) := WTS_s (by assumption) rfl (by omega)
                exact ih94 _ (msE hm94 q_1229 (q_1230 b21)) _ _ _ _ ((x94_7 + 1)) (rk_o (rk_o (l94_0) rfl rfl) rfl rfl) (rk_o (rk_o (l94_1) rfl rfl) rfl rfl) (rk_o (rk_o (l94_2) rfl rfl) rfl rfl) (rk_o (rk_o (l94_5) rfl rfl) rfl rfl) (rk_o (rk_o (l94_6) rfl rfl) rfl rfl) (rk_s) H O (hS_94) (SA_upd (hA_94) rfl)    (upd1 (w94_2) (x94_7) (z28)) (congrArg (fun q => upd1 q (x94_7) (z28)) (ew94_2)) (show inr ((x94_7 + 1)) from q_3394 b21 gz18 j94_0 j94_1) (show (0) ≤ ((x94_7 + 1)) from q_29 j94_1) (show ((x94_7 + 1)) ≤ (0) ∨ ((x94_7 + 1)) ≤ (((z18 - 127))) from q_1227 b21) (show WTS ((upd1 (w94_2) (x94_7) (z28))) ((x94_7 + 1)) from hw1) rfl
              · refine Ew_of (pcₚ := 132) (fun _ => x_iload rfl rk_s) ?_
                refine Ew_of (pcₚ := 133) (fun _ => x_iconst rfl) ?_
                refine w_ishrK 4 16 (by decide) (by decide) rfl (show inr (z26) from gz26) (fun z30 gz30 dz30 => ?_)
                refine Ew_of (pcₚ := 142) (fun _ => x_goto rfl rfl) ?_
                refine v_sI H (o := 2) (z := z30) rfl rfl rfl rfl (n := n2) (en2) (show 0 ≤ x94_7 ∧ x94_7 < n2 by omega) (show inr (z30) from gz30) (fun σ H Oₚ => ?_)
                have O := OUT_trans O Oₚ
                have cAu31 : SA oz_F4clsl_1 A (updA A_94 2 (x94_7) (z30)) := SA_upd (cA_94) rfl
                have mAu31 := SAm_of cAu31 oz_F4cls_4
                refine Ew_of (pcₚ := 146) (fun _ => x_iinc (len := 3) rfl (rk_o (l94_7) rfl rfl)) ?_
                refine Ew_of (pcₚ := 94) (fun _ => x_goto rfl rfl) ?_
                have hw1 : WTS ((upd1 (w94_2) (x94_7) (z30))) ((x94_7 + 1)) := WTS_s (by assumption) rfl (by omega)
                exact ih94 _ (msE hm94 q_1229 (q_1230 b21)) _ _ _ _ ((x94_7 + 1)) (rk_o (rk_o (l94_0) rfl rfl) rfl rfl) (rk_o (rk_o (l94_1) rfl rfl) rfl rfl) (rk_o (rk_o (l94_2) rfl rfl) rfl rfl) (rk_o (rk_o (l94_5) rfl rfl) rfl rfl) (rk_o (rk_o (l94_6) rfl rfl) rfl rfl) (rk_s) H O (hS_94) (SA_upd (hA_94) rfl)    (upd1 (w94_2) (x94_7) (z30)) (congrArg (fun q => upd1 q (x94_7) (z30)) (ew94_2)) (show inr ((x94_7 + 1)) from q_3394 b21 gz18 j94_0 j94_1) (show (0) ≤ ((x94_7 + 1)) from q_29 j94_1) (show ((x94_7 + 1)) ≤ (0) ∨ ((x94_7 + 1)) ≤ (((z18 - 127))) from q_1227 b21) (show WTS ((upd1 (w94_2) (x94_7) (z30))) ((x94_7 + 1)) from hw1) rfl
        · refine Ew_of (pcₚ := 59) (fun _ => x_aload_n rfl (rk_o (lc42_0) rfl rfl)) ?_
          refine Ew_of (pcₚ := 60) (fun _ => x_aload_n rfl (rk_o (lc42_1) rfl rfl)) ?_
          refine Ew_of (pcₚ := 61) (fun _ => x_iload_n rfl (rk_o (lc42_2) rfl rfl)) ?_
          refine Ew_of (pcₚ := 62) (fun _ => x_iconst rfl) ?_
          refine w_iadd rfl ?_
          refine Ew_of (pcₚ := 65) (fun _ => x_iload rfl rk_s) ?_
          refine v_inv H (o := 0) rfl rfl rfl rfl rfl rfl (by rfl) (C108_Br (D := puc 4876667981364767315695969161970176 D) (N := puc 4876667981364767315695969161970176 N) (HW_subc H oz_F4cls_2 oz_F4cls_6) ((mF_c42 0 4 rfl).trans (pf2)) ((mF_c42 0 6 rfl).trans (pf6)) ((mF_c42 6 2 rfl).trans (pf7)) ((mF_c42 6 3 rfl).trans (pf8)) ((mF_c42 6 4 rfl).trans (pf9)) ((mF_c42 6 5 rfl).trans (pf10)) ((mF_c42 6 6 rfl).trans (pf11)) ((mF_c42 6 8 rfl).trans (pf12)) ((mF_c42 6 7 rfl).trans (pf13)) ((mF_c42 6 9 rfl).trans (pf14)) ((mF_c42 0 9 rfl).trans (pf15)) (n1) (en1) (n2) (en2) (n7) (en7) (n8) (en8) (n9) (en9) (n10) (en10) (n11) (en11) (n12) (en12) (n13) (en13) (n14) (en14) (u6_1) (((mF_c42 6 1 rfl).trans (eu6_1))) (A 2) (funext (hA_c42 2 rfl)) (show inr ((a2 + 1)) from q_3396 h2) (show inr (((a2 + 1) + tc42_0)) from q_3393 b19 h2 jc42_0) (show 0 ≤ ((a2 + 1)) ∧ ((a2 + 1)) ≤ 65536 ∧ 0 ≤ (((a2 + 1) + tc42_0)) ∧ (((a2 + 1) + tc42_0)) ≤ (n1) ∧ (n1) ≤ 65536 ∧ ((a2 + 1)) ≤ (((a2 + 1) + tc42_0)) by omega) (show (n2) = 256 from q_3395 h3) (show (n7) = (u6_1) ∧ (n8) = (u6_1) ∧ (n9) = (u6_1) ∧ (n10) = (u6_1) ∧ (n11) = (u6_1) ∧ (n12) = (n13) ∧ (n14) = (n13) ∧ 1 ≤ (u6_1) ∧ (u6_1) ≤ 64 ∧ (u6_1) = 12 ∧ (n13) = 64 from h4) (fun z32 σ32 F32ₚ A32ₚ Hₚ Oₚ hS32 hA32 w32_2 ew32_2 pz32_0 pz32_1 pz32_2 => ⟨rfl, ?_⟩))
          refine v_backc (c := c) (s := s) H oz_F4cls_2 oz_F4cls_6 Hₚ Oₚ (fun F32 A32 H Oₚ eF32 eA32 => ?_)
          have O := OUT_trans O Oₚ
          -- Codes.hearByStates
          have cF32 : SF oz_F4clsl_0 F F32 := SF_trans (cF_c42) (SF_gluc (ι := oz_F4clsl_3) oz_F4cls_6 hS32 eF32 (by decide +kernel)) (any_sub (lₚ := [(6, 0), (6, 10), (6, 11), (6, 12), (15, 0), (15, 1), (15, 2)]) (by decide +kernel))
          have mF32 := SFm_of cF32 oz_F4cls_3
          have cA32 : SA oz_F4clsl_1 A A32 := SA_trans (cA_c42) (SA_gluc (ι := oz_F4clsl_3) oz_F4cls_6 hA32 eA32 (by decide +kernel)) (any_subA (lₚ := [2, 7, 8, 9, 10, 11, 12, 13, 14]) (by decide +kernel))
          have mA32 := SAm_of cA32 oz_F4cls_4
          refine Ew_of (pcₚ := 70) (fun _ => x_istore rfl) ?_
          refine Ew_of (pcₚ := 72) (fun _ => x_iload rfl rk_s) ?_
          refine w_ifle (t := 89) rfl rfl (show inr (z32) from pz32_0) (fun b33 => ?_) (fun b33 => ?_)
          · have hno : (-1 : Int) = -1 ∨ LNG ((w3)) ((u0_3)) := .inl rfl
            refine Ew_of (pcₚ := 90) (fun _ => x_iconst rfl) ?_
            exact w_ireturn rfl (k ((-1)) _ _ _ H O (cF32) (cA32) (u0_3) (((((show F32 0 3 = F_c42 0 3 from (eF32 0 3).trans (hS32 0 3 rfl))).trans (hS_c42 0 3 rfl)).trans (eu0_3))) (w3) (((show A32 3 = A_c42 3 from (eA32 3))).trans ((funext (hA_c42 3 rfl)).trans (ew3))) (w5) (((show A32 5 = A_c42 5 from (eA32 5))).trans ((funext (hA_c42 5 rfl)).trans (ew5))) (show inr ((-1)) from q_16) (show ((-1)) = -1 ∨ a2 < ((-1)) ∧ ((-1)) ≤ a3 by first | exact q_1205 | omega) (show CEL ((w5)) from h5) (show ((-1)) = -1 ∨ 0 ≤ (u0_3) ∧ (u0_3) ≤ 11 by first | exact q_3392 | omega) (show ((-1)) = -1 ∨ LNG ((w3)) ((u0_3)) by assumption))
          · refine Ew_of (pcₚ := 76) (fun _ => x_aload_n rfl (rk_o (rk_o (lc42_0) rfl rfl) rfl rfl)) ?_
            refine Ew_of (pcₚ := 78) (fun _ => x_iload rfl rk_s) ?_
            refine v_inv H (o := 0) rfl rfl rfl rfl rfl rfl (by rfl) (C109 (D := puc 344135042048 D) (N := puc 344135042048 N) (HW_subc H oz_F4cls_1 oz_F4cls_5) ((mF32 0 4 rfl).trans (pf2)) ((mF32 0 0 rfl).trans (pf3)) ((mF32 0 1 rfl).trans (pf4)) ((mF32 0 2 rfl).trans (pf5)) (n2) (en2) (n3) (en3) (n4) (en4) (n5) (en5) (u0_3) (((((show F32 0 3 = F_c42 0 3 from (eF32 0 3).trans (hS32 0 3 rfl))).trans (hS_c42 0 3 rfl)).trans (eu0_3))) (w32_2) ((eA32 2).trans ew32_2) (w3) (((show A32 3 = A_c42 3 from (eA32 3))).trans ((funext (hA_c42 3 rfl)).trans (ew3))) (w5) (((show A32 5 = A_c42 5 from (eA32 5))).trans ((funext (hA_c42 5 rfl)).trans (ew5))) (show inr (z32) from pz32_0) (show (n2) = 256 ∧ (n3) = 256 ∧ (n4) = 256 ∧ (n5) = 2048 from h3) (show 1 ≤ (z32) ∧ (z32) ≤ 255 from q_3397 b33 pz32_1) (show WTS ((w32_2)) (z32) from pz32_2) (show CEL ((w5)) from h5) (fun z34 σ34 F34ₚ A34ₚ Hₚ Oₚ hS34 hA34 y34_0_3 ey34_0_3 w34_2 ew34_2 w34_4 ew34_4 pz34_0 pz34_1 pz34_2 pz34_3 => ⟨rretB rfl pz34_0, ?_⟩))
            refine v_backc (c := c) (s := s) H oz_F4cls_1 oz_F4cls_5 Hₚ Oₚ (fun F34 A34 H Oₚ eF34 eA34 => ?_)
            have O := OUT_trans O Oₚ
            -- Codes.complete
            have cF34 : SF oz_F4clsl_0 F F34 := SF_trans (cF32) (SF_gluc (ι := oz_F4clsl_2) oz_F4cls_5 hS34 eF34 (by decide +kernel)) (any_sub (lₚ := [(0, 3)]) (by decide +kernel))
            have mF34 := SFm_of cF34 oz_F4cls_3
            have cA34 : SA oz_F4clsl_1 A A34 := SA_trans (cA32) (SA_gluc (ι := oz_F4clsl_2) oz_F4cls_5 hA34 eA34 (by decide +kernel)) (any_subA (lₚ := [2, 3, 4, 5]) (by decide +kernel))
            have mA34 := SAm_of cA34 oz_F4cls_4
            have r35 : (-2147483648 : Int) ≤ y34_0_3 ∧ y34_0_3 ≤ 2147483647 := rngE (show (-2147483648 : Int) ≤ F34 0 3 ∧ F34 0 3 ≤ 2147483647 from H.krg 0 3 (ltn len_V107_Br_oz_F4cls rfl)) (show F34 0 3 = y34_0_3 from ((eF34 0 3).trans ey34_0_3))
            refine w_ifeq (t := 89) rfl rfl (show inr (z34) from q_15 pz34_0) (fun b36 => ?_) (fun b36 => ?_)
            · have hno : (-1 : Int) = -1 ∨ LNG ((w34_2)) ((y34_0_3)) := .inl rfl
              refine Ew_of (pcₚ := 90) (fun _ => x_iconst rfl) ?_
              exact w_ireturn rfl (k ((-1)) _ _ _ H O (cF34) (cA34) (y34_0_3) (((eF34 0 3).trans ey34_0_3)) (w34_2) ((eA34 3).trans ew34_2) (w34_4) ((eA34 5).trans ew34_4) (show inr ((-1)) from q_16) (show ((-1)) = -1 ∨ a2 < ((-1)) ∧ ((-1)) ≤ a3 by first | exact q_1205 | omega) (show CEL ((w34_4)) from pz34_3) (show ((-1)) = -1 ∨ 0 ≤ (y34_0_3) ∧ (y34_0_3) ≤ 11 by first | exact q_3392 | omega) (show ((-1)) = -1 ∨ LNG ((w34_2)) ((y34_0_3)) by assumption))
            · have hyc : ((((a2 + 1) + tc42_0)) : Int) = -1 ∨ LNG ((w34_2)) ((y34_0_3)) := .inr (Or.resolve_left pz34_2 (by omega))
              refine Ew_of (pcₚ := 86) (fun _ => x_iload rfl (rk_o (rk_s) rfl rfl)) ?_
              refine Ew_of (pcₚ := 90) (fun _ => x_goto rfl rfl) ?_
              exact w_ireturn rfl (k (((a2 + 1) + tc42_0)) _ _ _ H O (cF34) (cA34) (y34_0_3) (((eF34 0 3).trans ey34_0_3)) (w34_2) ((eA34 3).trans ew34_2) (w34_4) ((eA34 5).trans ew34_4) (show inr (((a2 + 1) + tc42_0)) from q_3393 b19 h2 jc42_0) (show (((a2 + 1) + tc42_0)) = -1 ∨ a2 < (((a2 + 1) + tc42_0)) ∧ (((a2 + 1) + tc42_0)) ≤ a3 by omega) (show CEL ((w34_4)) from pz34_3) (show (((a2 + 1) + tc42_0)) = -1 ∨ 0 ≤ (y34_0_3) ∧ (y34_0_3) ≤ 11 by omega) (show (((a2 + 1) + tc42_0)) = -1 ∨ LNG ((w34_2)) ((y34_0_3)) from hyc))
      · have hno : (-1 : Int) = -1 ∨ LNG ((w3)) ((u0_3)) := .inl rfl
        refine Ew_of (pcₚ := 52) (fun _ => x_iconst rfl) ?_
        exact w_ireturn rfl (k ((-1)) _ _ _ H O (cF_c42) (cA_c42) (u0_3) (((hS_c42 0 3 rfl).trans (eu0_3))) (w3) ((funext (hA_c42 3 rfl)).trans (ew3)) (w5) ((funext (hA_c42 5 rfl)).trans (ew5)) (show inr ((-1)) from q_16) (show ((-1)) = -1 ∨ a2 < ((-1)) ∧ ((-1)) ≤ a3 by first | exact q_1205 | omega) (show CEL ((w5)) from h5) (show ((-1)) = -1 ∨ 0 ≤ (u0_3) ∧ (u0_3) ≤ 11 by first | exact q_3392 | omega) (show ((-1)) = -1 ∨ LNG ((w3)) ((u0_3)) by assumption))
    refine w_ifle (t := 40) rfl rfl (show inr ((z18 - 127)) by omega) (fun b37 => ?_) (fun b37 => ?_)
    · refine Ew_of (pcₚ := 42) (fun _ => x_iload rfl (rk_o (rk_s) rfl rfl)) ?_
      exact hc42 (z18) _ _ _ _  (rk_o (rk_o (rfl) rfl rfl) rfl rfl) (rk_o (rk_o (rfl) rfl rfl) rfl rfl) (rk_o (rk_o (rfl) rfl rfl) rfl rfl) (rk_o (rk_o (rfl) rfl rfl) rfl rfl) (rk_s) H O (SF_refl) (SA_refl)     (show inr (z18) from gz18) (show (((z18 - 127)) ≤ (0) ∧ (z18) = (z18)) ∨ (((z18 - 127)) > (0) ∧ (z18) = ((((z18 - 127) + 1) / 2))) from q_3398 b37)
    · refine Ew_of (pcₚ := 33) (fun _ => x_iload rfl rk_s) ?_
      refine Ew_of (pcₚ := 34) (fun _ => x_iconst rfl) ?_
      refine w_iadd rfl ?_
      refine Ew_of (pcₚ := 36) (fun _ => x_iconst rfl) ?_
      refine w_idiv rfl (show inr (((z18 - 127) + 1)) ∧ 0 ≤ ((z18 - 127) + 1) from q_3399 b37 gz18) (show inr (2) ∧ 0 < 2 from q_967) ?_
      refine Ew_of (pcₚ := 42) (fun _ => x_goto rfl rfl) ?_
      exact hc42 ((((z18 - 127) + 1) / 2)) _ _ _ _  (rk_o (rk_o (rfl) rfl rfl) rfl rfl) (rk_o (rk_o (rfl) rfl rfl) rfl rfl) (rk_o (rk_o (rfl) rfl rfl) rfl rfl) (rk_o (rk_o (rfl) rfl rfl) rfl rfl) (rk_s) H O (SF_refl) (SA_refl)     (show inr ((((z18 - 127) + 1) / 2)) from q_3401 b37 gz18) (show (((z18 - 127)) ≤ (0) ∧ ((((z18 - 127) + 1) / 2)) = (z18)) ∨ (((z18 - 127)) > (0) ∧ ((((z18 - 127) + 1) / 2)) = ((((z18 - 127) + 1) / 2))) from q_3400 b37)
  · have hno : (-1 : Int) = -1 ∨ LNG ((w3)) ((u0_3)) := .inl rfl
    refine Ew_of (pcₚ := 6) (fun _ => x_iconst rfl) ?_
    exact w_ireturn rfl (k ((-1)) _ _ _ H O (SF_refl) (SA_refl) (u0_3) ((eu0_3)) (w3) (ew3) (w5) (ew5) (show inr ((-1)) from q_16) (show ((-1)) = -1 ∨ a2 < ((-1)) ∧ ((-1)) ≤ a3 by first | exact q_1205 | omega) (show CEL ((w5)) from h5) (show ((-1)) = -1 ∨ 0 ≤ (u0_3) ∧ (u0_3) ≤ 11 by first | exact q_3392 | omega) (show ((-1)) = -1 ∨ LNG ((w3)) ((u0_3)) by assumption))
abbrev V110_Br_Row : vV := [(0, 3, [(4, 0), (4, 0), (4, 0), (0, 0), (4, 0), (4, 0), (4, 0), (4, 0), (4, 0), (4, 0), (4, 0), (4, 0), (4, 0), (0, 0), (0, 0), (0, 0), (0, 0)]), (1, 0, []), (0, 7, [(4, 0), (0, 0), (1, 0), (0, 0), (0, 0)]), (1, 1, []), (1, 0, []), (0, 2, [(4, 0), (0, 0), (0, 0)])]
theorem len_V110_Br_Row_oz_F4cls : (V110_Br_Row).length = 6 := by decide +kernel
theorem oz_F4cls_8 : vsub V110_Br_Row V93_Br [5, 1] = true := by decide +kernel
theorem oz_F4cls_9 : vsub V110_Br_Row V94 [5, 1] = true := by decide +kernel
def oz_F4clsl_4 : List (Nat × Nat) := [(2, 1), (5, 0), (5, 1), (5, 2)]
theorem oz_F4cls_10 : (oz_F4clsl_4).all (fun p => !tbz 10230511461316320427425793829050874625738946904064 (Nat.add (Nat.mul 32 p.1) p.2)) = true := by decide +kernel
def oz_F4clsl_5 : List Nat := [4]
theorem oz_F4cls_11 : (oz_F4clsl_5).all (fun p => !tbz 16 p) = true := by decide +kernel
def oz_F4clsl_6 : List Nat := [5, 1]
theorem oz_F4cls_12 : okc oz_F4clsl_6 517 = true := by decide +kernel
/-- Codes.unpack: this, #1, #2, this.cells, #2.bytes, this.source -/
theorem C110_Br_Row {σE : rS} {D N : Nat → Nat} {F : hF} {A : hA} {d c s : Nat} {Q : wQ} (H : HW V110_Br_Row σE D N F A) {a2 a3 a4 : Int} (pf3 : F 0 2 = (D 3 : Int)) (pf4 : F 2 0 = (D 4 : Int)) (pf5 : F 0 9 = (D 5 : Int)) (n1 : Int) (en1 : (N 1 : Int) = n1) (n3 : Int) (en3 : (N 3 : Int) = n3) (n4 : Int) (en4 : (N 4 : Int) = n4) (u0_3 : Int) (eu0_3 : F 0 3 = u0_3) (u2_1 : Int) (eu2_1 : F 2 1 = u2_1) (w3 : Int → Int) (ew3 : A 3 = w3) (h0 : inr (a2)) (h1 : inr (a3)) (h2 : inr (a4)) (h3 : 0 ≤ (a2) ∧ (a2) ≤ 65536 ∧ 0 ≤ (a3) ∧ (a3) ≤ (n1) ∧ (n1) ≤ 65536 ∧ (a2) ≤ 200000) (h4 : 0 ≤ ((u0_3)) ∧ ((u0_3)) ≤ 11) (h5 : CEL ((w3))) (h6 : (n3) = 2048) (h7 : 0 ≤ (u2_1) ∧ (u2_1) ≤ (n4) ∧ (n4) ≤ 65536) (k : ∀ (z : Int) (σ : rS) (Fₚ : hF) (Aₚ : hA), HW V110_Br_Row σ D N Fₚ Aₚ → OUT (V110_Br_Row).length D N σE c s D N σ c s → SF [(2, 1), (5, 0), (5, 1), (5, 2)] F Fₚ → SA [4] A Aₚ → ∀ y2_1 : Int, Fₚ 2 1 = y2_1 → ((z) = 0 ∨ (z) = 1) → (0 ≤ (y2_1) ∧ (y2_1) ≤ (n4) ∧ (n4) ≤ 65536) → ((u2_1) ≤ (y2_1)) → Q (some (I z)) σ c s) : Ew 110 (d + 2) 0 (rargs 0 [.ref (D 0), .ref (D 1), I a2, I a3, I a4, .ref (D 2)]) [] σE c s Q := by
  have O := OUT_refl (n := (V110_Br_Row).length) (D := D) (N := N) (σ := σE) (c := c) (s := s)
  have HE := H
  have r1 : (-2147483648 : Int) ≤ u0_3 ∧ u0_3 ≤ 2147483647 := rngE (show (-2147483648 : Int) ≤ F 0 3 ∧ F 0 3 ≤ 2147483647 from H.krg 0 3 (ltn len_V110_Br_Row_oz_F4cls rfl)) (show F 0 3 = u0_3 from (eu0_3))
  have r2 : (-2147483648 : Int) ≤ u2_1 ∧ u2_1 ≤ 2147483647 := rngE (show (-2147483648 : Int) ≤ F 2 1 ∧ F 2 1 ≤ 2147483647 from H.krg 2 1 (ltn len_V110_Br_Row_oz_F4cls rfl)) (show F 2 1 = u2_1 from (eu2_1))
  have r3 : (0 : Int) ≤ n1 ∧ n1 ≤ 1000000 := nleE (H.nle 1 (ltn len_V110_Br_Row_oz_F4cls rfl)) (show (N 1 : Int) = n1 from en1)
  have r4 : (0 : Int) ≤ n3 ∧ n3 ≤ 1000000 := nleE (H.nle 3 (ltn len_V110_Br_Row_oz_F4cls rfl)) (show (N 3 : Int) = n3 from en3)
  have r5 : (0 : Int) ≤ n4 ∧ n4 ≤ 1000000 := nleE (H.nle 4 (ltn len_V110_Br_Row_oz_F4cls rfl)) (show (N 4 : Int) = n4 from en4)
  have hcel : CEL ((w3)) := h5
  refine Ew_of (pcₚ := 1) (fun _ => x_aload_n rfl rfl) ?_
  refine v_g H (o := 0) (v := .ref (D 5)) rfl rfl rfl rfl rfl (vrf (pf5)) ?_
  refine Ew_of (pcₚ := 5) (fun _ => x_aload_n rfl rfl) ?_
  refine Ew_of (pcₚ := 6) (fun _ => x_iload_n rfl rfl) ?_
  refine Ew_of (pcₚ := 7) (fun _ => x_iload_n rfl rfl) ?_
  have r6 : (-2147483648 : Int) ≤ F 5 1 ∧ F 5 1 ≤ 2147483647 := H.krg 5 1 (ltn len_V110_Br_Row_oz_F4cls rfl)
  have r7 : (-2147483648 : Int) ≤ F 5 2 ∧ F 5 2 ≤ 2147483647 := H.krg 5 2 (ltn len_V110_Br_Row_oz_F4cls rfl)
  refine v_inv H (o := 5) rfl rfl rfl rfl rfl rfl (by rfl) (C93_Br (D := puc 517 D) (N := puc 517 N) (HW_subc H oz_F4cls_8 oz_F4cls_12) (n1) (en1) (F 5 1) (rfl) (F 5 2) (rfl) (show inr (a2) from h0) (show inr (a3) from h1) (show 0 ≤ (a2) ∧ (a3) ≤ (n1) ∧ (n1) ≤ 65536 ∧ 0 ≤ (a3) ∧ (a2) ≤ 200000 from q_3402 h3) (fun z8 σ8 F8ₚ A8ₚ Hₚ Oₚ hS8 hA8 y8_0_1 ey8_0_1 y8_0_2 ey8_0_2 pq8_0 pz8_0 pz8_1 pz8_2 => ⟨rretB rfl pz8_0, ?_⟩))
  refine v_backc (c := c) (s := s) H oz_F4cls_8 oz_F4cls_12 Hₚ Oₚ (fun F8 A8 H Oₚ eF8 eA8 => ?_)
  have O := OUT_trans O Oₚ
  -- BitSource.begin
  have cF8 : SF oz_F4clsl_4 F F8 := SF_trans (SF_refl) (SF_gluc (ι := oz_F4clsl_6) oz_F4cls_12 hS8 eF8 (by decide +kernel)) (any_sub (lₚ := [(5, 0), (5, 1), (5, 2)]) (by decide +kernel))
  have mF8 := SFm_of cF8 oz_F4cls_10
  have cA8 : SA oz_F4clsl_5 A A8 := SA_trans (SA_refl) (SA_gluc (ι := oz_F4clsl_6) oz_F4cls_12 hA8 eA8 (by decide +kernel)) (any_subA (lₚ := []) (by decide +kernel))
  have mA8 := SAm_of cA8 oz_F4cls_11
  have pl8_0 : F8 5 0 = (D 1 : Int) := (eF8 5 0).trans (pq8_0)
  have r9 : (-2147483648 : Int) ≤ y8_0_1 ∧ y8_0_1 ≤ 2147483647 := rngE (show (-2147483648 : Int) ≤ F8 5 1 ∧ F8 5 1 ≤ 2147483647 from H.krg 5 1 (ltn len_V110_Br_Row_oz_F4cls rfl)) (show F8 5 1 = y8_0_1 from ((eF8 5 1).trans ey8_0_1))
  have r10 : (-2147483648 : Int) ≤ y8_0_2 ∧ y8_0_2 ≤ 2147483647 := rngE (show (-2147483648 : Int) ≤ F8 5 2 ∧ F8 5 2 ≤ 2147483647 from H.krg 5 2 (ltn len_V110_Br_Row_oz_F4cls rfl)) (show F8 5 2 = y8_0_2 from ((eF8 5 2).trans ey8_0_2))
  refine w_ifne (t := 15) rfl rfl (show inr (z8) from q_15 pz8_0) (fun b11 => ?_) (fun b11 => ?_)
  · refine Ew_of (pcₚ := 16) (fun _ => x_iconst rfl) ?_
    refine Ew_of (pcₚ := 18) (fun _ => x_istore rfl) ?_
    suffices hl18 : ∀ (m : Nat), ∀ (ls : rO) (σ : rS) (F_18 : hF) (A_18 : hA) (x18_6 : Int), rlook ls 0 = some (.ref (D 0)) → rlook ls 4 = some (I (a4)) → rlook ls 5 = some (.ref (D 2)) → rlook ls 6 = some (I (x18_6)) → HW V110_Br_Row σ D N F_18 A_18 → OUT (V110_Br_Row).length D N σE c s D N σ c s → SF [(2, 1), (5, 2)] F8 F_18 → SA [4] A8 A_18 → ∀ y18_2_1 : Int, F_18 2 1 = y18_2_1 → ∀ y18_5_2 : Int, F_18 5 2 = y18_5_2 → (inr (x18_6)) → ((0) ≤ (x18_6)) → ((x18_6) ≤ (0) ∨ (x18_6) ≤ ((a4))) → (0 ≤ (y18_2_1) ∧ (y18_2_1) ≤ (n4) ∧ (n4) ≤ 65536) → ((u2_1) ≤ (y18_2_1)) → (-11 ≤ (y18_5_2) ∧ (y18_5_2) ≤ 8 * ((n1) - (y8_0_1))) → (((a4)) - (x18_6)).toNat = m → Ew 110 (d + 2) 18 ls [] σ c s Q from
      hl18 _ _ _ _ _ (0) (rk_o (rfl) rfl rfl) (rk_o (rfl) rfl rfl) (rk_o (rfl) rfl rfl) (rk_s) H O (SF_refl) (SA_refl)   (u2_1) ((((show F8 2 1 = F 2 1 from (eF8 2 1))).trans (eu2_1))) (y8_0_2) (((eF8 5 2).trans ey8_0_2))  (show inr (0) from q_20) (show (0) ≤ (0) from q_25) (show (0) ≤ (0) ∨ (0) ≤ ((a4)) from q_24) (show 0 ≤ (u2_1) ∧ (u2_1) ≤ (n4) ∧ (n4) ≤ 65536 from h7) (show (u2_1) ≤ (u2_1) from q_102) (show -11 ≤ (y8_0_2) ∧ (y8_0_2) ≤ 8 * ((n1) - (y8_0_1)) by omega) rfl
    as_aux_lemma =>
    intro m
    induction m using Nat.strongRecOn with
    | _ m ih18 =>
      intro ls σ F_18 A_18 x18_6 l18_0 l18_4 l18_5 l18_6 H O hS_18 hA_18   y18_2_1 ey18_2_1 y18_5_2 ey18_5_2  j18_0 j18_1 j18_2 j18_3 j18_4 j18_5 hm18
      have cF_18 : SF oz_F4clsl_4 F F_18 := SF_trans (cF8) hS_18 (any_sub (by decide +kernel))
      have mF_18 := SFm_of cF_18 oz_F4cls_10
      have cA_18 : SA oz_F4clsl_5 A A_18 := SA_trans (cA8) hA_18 (any_subA (by decide +kernel))
      have mA_18 := SAm_of cA_18 oz_F4cls_11
      have r12 : (-2147483648 : Int) ≤ y18_2_1 ∧ y18_2_1 ≤ 2147483647 := rngE (show (-2147483648 : Int) ≤ F_18 2 1 ∧ F_18 2 1 ≤ 2147483647 from H.krg 2 1 (ltn len_V110_Br_Row_oz_F4cls rfl)) (show F_18 2 1 = y18_2_1 from (ey18_2_1))
      have r13 : (-2147483648 : Int) ≤ y18_5_2 ∧ y18_5_2 ≤ 2147483647 := rngE (show (-2147483648 : Int) ≤ F_18 5 2 ∧ F_18 5 2 ≤ 2147483647 from H.krg 5 2 (ltn len_V110_Br_Row_oz_F4cls rfl)) (show F_18 5 2 = y18_5_2 from (ey18_5_2))
      refine Ew_of (pcₚ := 20) (fun _ => x_iload rfl l18_6) ?_
      refine Ew_of (pcₚ := 22) (fun _ => x_iload rfl l18_4) ?_
      have hc112 : ∀ (ls : rO) (σ : rS) (F_c112 : hF) (A_c112 : hA) , rlook ls 0 = some (.ref (D 0)) → HW V110_Br_Row σ D N F_c112 A_c112 → OUT (V110_Br_Row).length D N σE c s D N σ c s → SF [] F_18 F_c112 → SA [] A_18 A_c112 → (((x18_6) ≥ (a4)) ∨ ((x18_6) < (a4) ∧ (y18_5_2) < (0))) → Ew 110 (d + 2) 112 ls [] σ c s Q := by
       as_aux_lemma =>
        intro  ls σ F_c112 A_c112  lc112_0 H O hS_c112 hA_c112     jc112_0
        have cF_c112 : SF oz_F4clsl_4 F F_c112 := SF_trans (cF_18) hS_c112 (any_sub (by decide +kernel))
        have mF_c112 := SFm_of cF_c112 oz_F4cls_10
        have cA_c112 : SA oz_F4clsl_5 A A_c112 := SA_trans (cA_18) hA_c112 (any_subA (by decide +kernel))
        have mA_c112 := SAm_of cA_c112 oz_F4cls_11
        refine Ew_of (pcₚ := 113) (fun _ => x_aload_n rfl lc112_0) ?_
        refine v_g H (o := 0) (v := .ref (D 5)) rfl rfl rfl rfl rfl (vrf ((mF_c112 0 9 rfl).trans (pf5))) ?_
        refine v_g H (o := 5) (v := I (y18_5_2)) rfl rfl rfl rfl rfl (congrArg (fun z : Int => I z) (((hS_c112 5 2 rfl).trans (ey18_5_2)) : F_c112 5 2 = y18_5_2)) ?_
        refine w_ifne (t := 126) rfl rfl (show inr (y18_5_2) from q_3403 j18_5 r13) (fun b14 => ?_) (fun b14 => ?_)
        · refine Ew_of (pcₚ := 127) (fun _ => x_iconst rfl) ?_
          exact w_ireturn rfl (k (0) _ _ _ H O (cF_c112) (cA_c112) (y18_2_1) (((hS_c112 2 1 rfl).trans (ey18_2_1))) (show (0) = 0 ∨ (0) = 1 by first | exact q_1 | omega) (show 0 ≤ (y18_2_1) ∧ (y18_2_1) ≤ (n4) ∧ (n4) ≤ 65536 from j18_3) (show (u2_1) ≤ (y18_2_1) from j18_4))
        · refine Ew_of (pcₚ := 123) (fun _ => x_iconst rfl) ?_
          refine Ew_of (pcₚ := 127) (fun _ => x_goto rfl rfl) ?_
          exact w_ireturn rfl (k (1) _ _ _ H O (cF_c112) (cA_c112) (y18_2_1) (((hS_c112 2 1 rfl).trans (ey18_2_1))) (show (1) = 0 ∨ (1) = 1 by first | exact q_5 | omega) (show 0 ≤ (y18_2_1) ∧ (y18_2_1) ≤ (n4) ∧ (n4) ≤ 65536 from j18_3) (show (u2_1) ≤ (y18_2_1) from j18_4))
      refine w_icmpge (t := 112) rfl rfl (show inr (x18_6) from j18_0) (show inr (a4) from h2) (fun b15 => ?_) (fun b15 => ?_)
      · exact hc112  _ _ _ _  (l18_0) H O (SF_refl) (SA_refl)     (show ((x18_6) ≥ (a4)) ∨ ((x18_6) < (a4) ∧ (y18_5_2) < (0)) from q_3404 b15)
      · refine Ew_of (pcₚ := 26) (fun _ => x_aload_n rfl l18_0) ?_
        refine v_g H (o := 0) (v := .ref (D 5)) rfl rfl rfl rfl rfl (vrf ((mF_18 0 9 rfl).trans (pf5))) ?_
        refine v_g H (o := 5) (v := I (y18_5_2)) rfl rfl rfl rfl rfl (congrArg (fun z : Int => I z) ((ey18_5_2) : F_18 5 2 = y18_5_2)) ?_
        refine w_iflt (t := 112) rfl rfl (show inr (y18_5_2) from q_3403 j18_5 r13) (fun b16 => ?_) (fun b16 => ?_)
        · exact hc112  _ _ _ _  (l18_0) H O (SF_refl) (SA_refl)     (show ((x18_6) ≥ (a4)) ∨ ((x18_6) < (a4) ∧ (y18_5_2) < (0)) from q_3405 b15 b16)
        · refine Ew_of (pcₚ := 36) (fun _ => x_aload_n rfl l18_0) ?_
          refine v_g H (o := 0) (v := .ref (D 3)) rfl rfl rfl rfl rfl (vrf ((mF_18 0 2 rfl).trans (pf3))) ?_
          refine Ew_of (pcₚ := 40) (fun _ => x_aload_n rfl l18_0) ?_
          refine v_g H (o := 0) (v := .ref (D 5)) rfl rfl rfl rfl rfl (vrf ((mF_18 0 9 rfl).trans (pf5))) ?_
          refine Ew_of (pcₚ := 44) (fun _ => x_aload_n rfl l18_0) ?_
          refine v_g H (o := 0) (v := I (u0_3)) rfl rfl rfl rfl rfl (congrArg (fun z : Int => I z) (((mF_18 0 3 rfl).trans (eu0_3)) : F_18 0 3 = u0_3)) ?_
          refine v_inv H (o := 5) rfl rfl rfl rfl rfl rfl (by rfl) (C94 (D := puc 517 D) (N := puc 517 N) (HW_subc H oz_F4cls_9 oz_F4cls_12) (((hS_18 5 0 rfl)).trans (pl8_0)) (n1) (en1) (y8_0_1) (((hS_18 5 1 rfl).trans ((eF8 5 1).trans ey8_0_1))) (y18_5_2) ((ey18_5_2)) (show inr (u0_3) from q_1138 h4) (show 0 ≤ (u0_3) ∧ (u0_3) ≤ 31 from q_1915 h4) (show 0 ≤ (y8_0_1) ∧ (y8_0_1) ≤ 65536 ∧ (y18_5_2) ≤ 8 * ((n1) - (y8_0_1)) ∧ (n1) ≤ 65536 from q_3407 b16 h3 j18_5 pz8_1) (show -100 ≤ (y18_5_2) from q_3406 b16) (fun z17 σ17 F17ₚ A17ₚ Hₚ Oₚ hS17 hA17 pz17_0 pz17_1 => ⟨rfl, ?_⟩))
          refine v_backc (c := c) (s := s) H oz_F4cls_9 oz_F4cls_12 Hₚ Oₚ (fun F17 A17 H Oₚ eF17 eA17 => ?_)
          have O := OUT_trans O Oₚ
          -- BitSource.peek
          have cF17 : SF oz_F4clsl_4 F F17 := SF_trans (cF_18) (SF_gluc (ι := oz_F4clsl_6) oz_F4cls_12 hS17 eF17 (by decide +kernel)) (any_sub (lₚ := []) (by decide +kernel))
          have mF17 := SFm_of cF17 oz_F4cls_10
          have cA17 : SA oz_F4clsl_5 A A17 := SA_trans (cA_18) (SA_gluc (ι := oz_F4clsl_6) oz_F4cls_12 hA17 eA17 (by decide +kernel)) (any_subA (lₚ := []) (by decide +kernel))
          have mA17 := SAm_of cA17 oz_F4cls_11
          refine w_l2i rfl ?_
          have hpg : p2 ((u0_3)) ≤ p2 11 := p2_mono (by omega)
          have hp11 : p2 11 = 2048 := by decide
          refine v_lI H (o := 3) rfl rfl rfl rfl (n := n3) (en3) (show 0 ≤ z17 ∧ z17 < n3 from q_3408 h6 hp11 hpg pz17_1) (fun v18 ev18 qv18 => ?_)
          have ev18 : (w3) (z17) = v18 := (congrFun ((funext (mA17 3 rfl)).trans (ew3)) (z17)).symm.trans ev18
          have hcb := hcel (z17)
          rw [ev18] at hcb
          refine Ew_of (pcₚ := 54) (fun _ => x_istore rfl) ?_
          have hc89 : ∀ (ls : rO) (σ : rS) (F_c89 : hF) (A_c89 : hA) , rlook ls 0 = some (.ref (D 0)) → rlook ls 4 = some (I (a4)) → rlook ls 5 = some (.ref (D 2)) → rlook ls 6 = some (I (x18_6)) → rlook ls 7 = some (I (v18)) → HW V110_Br_Row σ D N F_c89 A_c89 → OUT (V110_Br_Row).length D N σE c s D N σ c s → SF [(2, 1)] F17 F_c89 → SA [4] A17 A_c89 → ∀ yc89_2_1 : Int, F_c89 2 1 = yc89_2_1 → (0 ≤ (yc89_2_1) ∧ (yc89_2_1) ≤ (n4) ∧ (n4) ≤ 65536) → ((u2_1) ≤ (yc89_2_1)) → Ew 110 (d + 2) 89 ls [] σ c s Q := by
           as_aux_lemma =>
            intro  ls σ F_c89 A_c89  lc89_0 lc89_4 lc89_5 lc89_6 lc89_7 H O hS_c89 hA_c89   yc89_2_1 eyc89_2_1  jc89_0 jc89_1
            have cF_c89 : SF oz_F4clsl_4 F F_c89 := SF_trans (cF17) hS_c89 (any_sub (by decide +kernel))
            have mF_c89 := SFm_of cF_c89 oz_F4cls_10
            have cA_c89 : SA oz_F4clsl_5 A A_c89 := SA_trans (cA17) hA_c89 (any_subA (by decide +kernel))
            have mA_c89 := SAm_of cA_c89 oz_F4cls_11
            have r19 : (-2147483648 : Int) ≤ yc89_2_1 ∧ yc89_2_1 ≤ 2147483647 := rngE (show (-2147483648 : Int) ≤ F_c89 2 1 ∧ F_c89 2 1 ≤ 2147483647 from H.krg 2 1 (ltn len_V110_Br_Row_oz_F4cls rfl)) (show F_c89 2 1 = yc89_2_1 from (eyc89_2_1))
            refine Ew_of (pcₚ := 90) (fun _ => x_aload_n rfl lc89_0) ?_
            refine v_g H (o := 0) (v := .ref (D 5)) rfl rfl rfl rfl rfl (vrf ((mF_c89 0 9 rfl).trans (pf5))) ?_
            refine Ew_of (pcₚ := 94) (fun _ => x_dup rfl rfl) ?_
            refine v_g H (o := 5) (v := I (y18_5_2)) rfl rfl rfl rfl rfl (congrArg (fun z : Int => I z) ((((hS_c89 5 2 rfl).trans ((show F17 5 2 = F_18 5 2 from (eF17 5 2).trans (hS17 0 2 rfl)))).trans (ey18_5_2)) : F_c89 5 2 = y18_5_2)) ?_
            refine Ew_of (pcₚ := 99) (fun _ => x_iload rfl lc89_7) ?_
            refine Ew_of (pcₚ := 101) (fun _ => x_bipush (z := 8) rfl (by decide)) ?_
            refine w_ishrK 8 256 (by decide) (by decide) rfl (show inr (v18) from qv18) (fun z20 gz20 dz20 => ?_)
            refine w_isub rfl ?_
            refine v_p H (o := 5) (z := (y18_5_2 - z20)) (v := I ((y18_5_2 - z20))) rfl rfl rfl rfl rfl rfl rfl rfl (show (-2147483648 : Int) ≤ (y18_5_2 - z20) ∧ (y18_5_2 - z20) ≤ 2147483647 by omega) (fun σ H Oₚ => ?_)
            have O := OUT_trans O Oₚ
            have cFu21 : SF oz_F4clsl_4 F (updF F_c89 5 2 ((y18_5_2 - z20))) := SF_upd (cF_c89) rfl
            have mFu21 := SFm_of cFu21 oz_F4cls_10
            refine Ew_of (pcₚ := 109) (fun _ => x_iinc (len := 3) rfl (lc89_6)) ?_
            refine Ew_of (pcₚ := 18) (fun _ => x_goto rfl rfl) ?_
            exact ih18 _ (msE hm18 q_31 (q_34 b15)) _ _ _ _ ((x18_6 + 1)) (rk_o (lc89_0) rfl rfl) (rk_o (lc89_4) rfl rfl) (rk_o (lc89_5) rfl rfl) (rk_s) H O (SF_upd (SF_trans (SF_trans (hS_18) (SF_gluc (ι := oz_F4clsl_6) oz_F4cls_12 hS17 eF17 (by decide +kernel)) (any_sub (lₚ := []) (by decide +kernel))) hS_c89 (any_sub (by decide +kernel))) rfl) (SA_trans (SA_trans (hA_18) (SA_gluc (ι := oz_F4clsl_6) oz_F4cls_12 hA17 eA17 (by decide +kernel)) (any_subA (lₚ := []) (by decide +kernel))) hA_c89 (any_subA (by decide +kernel)))   (yc89_2_1) ((eyc89_2_1)) ((y18_5_2 - z20)) (rfl)  (show inr ((x18_6 + 1)) by omega) (show (0) ≤ ((x18_6 + 1)) from q_29 j18_1) (show ((x18_6 + 1)) ≤ (0) ∨ ((x18_6 + 1)) ≤ ((a4)) from q_33 b15) (show 0 ≤ (yc89_2_1) ∧ (yc89_2_1) ≤ (n4) ∧ (n4) ≤ 65536 from jc89_0) (show (u2_1) ≤ (yc89_2_1) from jc89_1) (show -11 ≤ ((y18_5_2 - z20)) ∧ ((y18_5_2 - z20)) ≤ 8 * ((n1) - (y8_0_1)) by omega) rfl
          refine Ew_of (pcₚ := 56) (fun _ => x_aload rfl (rk_o (l18_5) rfl rfl)) ?_
          refine v_g H (o := 2) (v := I (y18_2_1)) rfl rfl rfl rfl rfl (congrArg (fun z : Int => I z) ((((show F17 2 1 = F_18 2 1 from (eF17 2 1))).trans (ey18_2_1)) : F17 2 1 = y18_2_1)) ?_
          refine Ew_of (pcₚ := 61) (fun _ => x_aload rfl (rk_o (l18_5) rfl rfl)) ?_
          refine v_g H (o := 2) (v := .ref (D 4)) rfl rfl rfl rfl rfl (vrf ((mF17 2 0 rfl).trans (pf4))) ?_
          refine v_len H (o := 4) rfl rfl rfl rfl (n := n4) (en4) ?_
          refine w_icmpge (t := 89) rfl rfl (show inr (y18_2_1) from q_884 j18_3) (show inr (n4) from q_2541 j18_3 r5) (fun b22 => ?_) (fun b22 => ?_)
          · exact hc89  _ _ _ _  (rk_o (l18_0) rfl rfl) (rk_o (l18_4) rfl rfl) (rk_o (l18_5) rfl rfl) (rk_o (l18_6) rfl rfl) (rk_s) H O (SF_refl) (SA_refl)   (y18_2_1) ((((show F17 2 1 = F_18 2 1 from (eF17 2 1))).trans (ey18_2_1)))  (show 0 ≤ (y18_2_1) ∧ (y18_2_1) ≤ (n4) ∧ (n4) ≤ 65536 from j18_3) (show (u2_1) ≤ (y18_2_1) from j18_4)
          · refine Ew_of (pcₚ := 70) (fun _ => x_aload rfl (rk_o (l18_5) rfl rfl)) ?_
            refine v_g H (o := 2) (v := .ref (D 4)) rfl rfl rfl rfl rfl (vrf ((mF17 2 0 rfl).trans (pf4))) ?_
            refine Ew_of (pcₚ := 75) (fun _ => x_aload rfl (rk_o (l18_5) rfl rfl)) ?_
            refine Ew_of (pcₚ := 76) (fun _ => x_dup rfl rfl) ?_
            refine v_g H (o := 2) (v := I (y18_2_1)) rfl rfl rfl rfl rfl (congrArg (fun z : Int => I z) ((((show F17 2 1 = F_18 2 1 from (eF17 2 1))).trans (ey18_2_1)) : F17 2 1 = y18_2_1)) ?_
            refine Ew_of (pcₚ := 80) (fun _ => x_dup_x1 rfl rfl) ?_
            refine Ew_of (pcₚ := 81) (fun _ => x_iconst rfl) ?_
            refine w_iadd rfl ?_
            refine v_p H (o := 2) (z := (y18_2_1 + 1)) (v := I ((y18_2_1 + 1))) rfl rfl rfl rfl rfl rfl rfl rfl (show (-2147483648 : Int) ≤ (y18_2_1 + 1) ∧ (y18_2_1 + 1) ≤ 2147483647 from q_2513 b22 j18_3) (fun σ H Oₚ => ?_)
            have O := OUT_trans O Oₚ
            have cFu23 : SF oz_F4clsl_4 F (updF F17 2 1 ((y18_2_1 + 1))) := SF_upd (cF17) rfl
            have mFu23 := SFm_of cFu23 oz_F4cls_10
            refine Ew_of (pcₚ := 87) (fun _ => x_iload rfl rk_s) ?_
            refine v_i2b rfl (fun z24 gz24 => ?_)
            refine v_sB H (o := 4) rfl rfl rfl rfl (n := n4) (en4) (show 0 ≤ y18_2_1 ∧ y18_2_1 < n4 from q_2514 b22 j18_3) (fun z25 σ qz25 H Oₚ => ?_)
            have O := OUT_trans O Oₚ
            have cAu26 : SA oz_F4clsl_5 A (updA A17 4 (y18_2_1) (z25)) := SA_upd (cA17) rfl
            have mAu26 := SAm_of cAu26 oz_F4cls_11
            exact hc89  _ _ _ _  (rk_o (l18_0) rfl rfl) (rk_o (l18_4) rfl rfl) (rk_o (l18_5) rfl rfl) (rk_o (l18_6) rfl rfl) (rk_s) H O (SF_upd (SF_refl) rfl) (SA_upd (SA_refl) rfl)   ((y18_2_1 + 1)) (rfl)  (show 0 ≤ ((y18_2_1 + 1)) ∧ ((y18_2_1 + 1)) ≤ (n4) ∧ (n4) ≤ 65536 from q_2515 b22 j18_3) (show (u2_1) ≤ ((y18_2_1 + 1)) from q_105 j18_4)
  · refine Ew_of (pcₚ := 14) (fun _ => x_iconst rfl) ?_
    exact w_ireturn rfl (k (0) _ _ _ H O (cF8) (cA8) (u2_1) ((((show F8 2 1 = F 2 1 from (eF8 2 1))).trans (eu2_1))) (show (0) = 0 ∨ (0) = 1 by first | exact q_1 | omega) (show 0 ≤ (u2_1) ∧ (u2_1) ≤ (n4) ∧ (n4) ≤ 65536 from h7) (show (u2_1) ≤ (u2_1) from q_102))
abbrev V112_Br : vV := [(0, 3, [(4, 0), (4, 0), (4, 0), (0, 0), (4, 0), (4, 0), (4, 0), (4, 0), (4, 0), (4, 0), (4, 0), (4, 0), (4, 0), (0, 0), (0, 0), (0, 0), (0, 0)]), (1, 0, []), (1, 1, [])]
theorem len_V112_Br_oz_F4cls : (V112_Br).length = 3 := by decide +kernel
def oz_F4clsl_7 : List (Nat × Nat) := []
theorem oz_F4cls_14 : (oz_F4clsl_7).all (fun p => !tbz 0 (Nat.add (Nat.mul 32 p.1) p.2)) = true := by decide +kernel
def oz_F4clsl_8 : List Nat := []
theorem oz_F4cls_15 : (oz_F4clsl_8).all (fun p => !tbz 0 p) = true := by decide +kernel
/-- Codes.packedSize: this, #1, this.lengths -/
theorem C112_Br {σE : rS} {D N : Nat → Nat} {F : hF} {A : hA} {d c s : Nat} {Q : wQ} (H : HW V112_Br σE D N F A) {a2 a3 : Int} (pf2 : F 0 0 = (D 2 : Int)) (n1 : Int) (en1 : (N 1 : Int) = n1) (n2 : Int) (en2 : (N 2 : Int) = n2) (u0_3 : Int) (eu0_3 : F 0 3 = u0_3) (w2 : Int → Int) (ew2 : A 2 = w2) (h0 : inr (a2)) (h1 : inr (a3)) (h2 : 0 ≤ (a2) ∧ (a3) ≤ (n1) ∧ (n1) ≤ 65536) (h3 : 0 ≤ ((u0_3)) ∧ ((u0_3)) ≤ 11) (h4 : LNG ((w2)) ((u0_3))) (h5 : (n2) = 256) (k : ∀ (z : Int) (σ : rS) (Fₚ : hF) (Aₚ : hA), HW V112_Br σ D N Fₚ Aₚ → OUT (V112_Br).length D N σE c s D N σ c s → SF [] F Fₚ → SA [] A Aₚ → (inr (z)) → (0 ≤ (z) ∧ (z) ≤ 100000) → Q (some (I z)) σ c s) : Ew 112 (d + 0) 0 (rargs 0 [.ref (D 0), .ref (D 1), I a2, I a3]) [] σE c s Q := by
  have O := OUT_refl (n := (V112_Br).length) (D := D) (N := N) (σ := σE) (c := c) (s := s)
  have HE := H
  have r1 : (-2147483648 : Int) ≤ u0_3 ∧ u0_3 ≤ 2147483647 := rngE (show (-2147483648 : Int) ≤ F 0 3 ∧ F 0 3 ≤ 2147483647 from H.krg 0 3 (ltn len_V112_Br_oz_F4cls rfl)) (show F 0 3 = u0_3 from (eu0_3))
  have r2 : (0 : Int) ≤ n1 ∧ n1 ≤ 1000000 := nleE (H.nle 1 (ltn len_V112_Br_oz_F4cls rfl)) (show (N 1 : Int) = n1 from en1)
  have r3 : (0 : Int) ≤ n2 ∧ n2 ≤ 1000000 := nleE (H.nle 2 (ltn len_V112_Br_oz_F4cls rfl)) (show (N 2 : Int) = n2 from en2)
  have hln : LNG ((w2)) ((u0_3)) := h4
  refine Ew_of (pcₚ := 1) (fun _ => x_iconst rfl) ?_
  refine Ew_of (pcₚ := 3) (fun _ => x_istore rfl) ?_
  refine Ew_of (pcₚ := 4) (fun _ => x_iload_n rfl (rk_o (rfl) rfl rfl)) ?_
  refine Ew_of (pcₚ := 6) (fun _ => x_istore rfl) ?_
  suffices hl6 : ∀ (m : Nat), ∀ (ls : rO) (σ : rS) (F_6 : hF) (A_6 : hA) (x6_4 : Int) (x6_5 : Int), rlook ls 0 = some (.ref (D 0)) → rlook ls 1 = some (.ref (D 1)) → rlook ls 3 = some (I (a3)) → rlook ls 4 = some (I (x6_4)) → rlook ls 5 = some (I (x6_5)) → HW V112_Br σ D N F_6 A_6 → OUT (V112_Br).length D N σE c s D N σ c s → SF [] F F_6 → SA [] A A_6 → (inr (x6_4)) → (inr (x6_5)) → ((a2) ≤ (x6_5)) → ((x6_5) ≤ (a2) ∨ (x6_5) ≤ ((a3))) → (0 ≤ (x6_4) ∧ (x6_4) ≤ 11 * ((x6_5) - (a2))) → (((a3)) - (x6_5)).toNat = m → Ew 112 (d + 0) 6 ls [] σ c s Q from
    hl6 _ _ _ _ _ (0) (a2) (rk_o (rk_o (rfl) rfl rfl) rfl rfl) (rk_o (rk_o (rfl) rfl rfl) rfl rfl) (rk_o (rk_o (rfl) rfl rfl) rfl rfl) (rk_o (rk_s) rfl rfl) (rk_s) H O (SF_refl) (SA_refl)     (show inr (0) from q_20) (show inr (a2) from h0) (show (a2) ≤ (a2) from q_102) (show (a2) ≤ (a2) ∨ (a2) ≤ ((a3)) from q_101) (show 0 ≤ (0) ∧ (0) ≤ 11 * ((a2) - (a2)) from q_3409) rfl
  as_aux_lemma =>
  intro m
  induction m using Nat.strongRecOn with
  | _ m ih6 =>
    intro ls σ F_6 A_6 x6_4 x6_5 l6_0 l6_1 l6_3 l6_4 l6_5 H O hS_6 hA_6     j6_0 j6_1 j6_2 j6_3 j6_4 hm6
    have cF_6 : SF oz_F4clsl_7 F F_6 := SF_trans (SF_refl) hS_6 (any_sub (by decide +kernel))
    have mF_6 := SFm_of cF_6 oz_F4cls_14
    have cA_6 : SA oz_F4clsl_8 A A_6 := SA_trans (SA_refl) hA_6 (any_subA (by decide +kernel))
    have mA_6 := SAm_of cA_6 oz_F4cls_15
    refine Ew_of (pcₚ := 8) (fun _ => x_iload rfl l6_5) ?_
    refine Ew_of (pcₚ := 9) (fun _ => x_iload_n rfl l6_3) ?_
    refine w_icmpge (t := 47) rfl rfl (show inr (x6_5) from j6_1) (show inr (a3) from h1) (fun b4 => ?_) (fun b4 => ?_)
    · refine Ew_of (pcₚ := 49) (fun _ => x_iload rfl l6_4) ?_
      refine Ew_of (pcₚ := 51) (fun _ => x_bipush (z := 8) rfl (by decide)) ?_
      refine w_idiv rfl (show inr (x6_4) ∧ 0 ≤ x6_4 from q_3410 j6_0 j6_4) (show inr (8) ∧ 0 < 8 from q_810) ?_
      refine Ew_of (pcₚ := 53) (fun _ => x_iconst rfl) ?_
      refine w_iadd rfl ?_
      exact w_ireturn rfl (k (((x6_4 / 8) + 1)) _ _ _ H O (cF_6) (cA_6) (show inr (((x6_4 / 8) + 1)) from q_3411 j6_0 j6_4) (show 0 ≤ (((x6_4 / 8) + 1)) ∧ (((x6_4 / 8) + 1)) ≤ 100000 by omega))
    · refine Ew_of (pcₚ := 13) (fun _ => x_aload_n rfl l6_0) ?_
      refine v_g H (o := 0) (v := .ref (D 2)) rfl rfl rfl rfl rfl (vrf ((mF_6 0 0 rfl).trans (pf2))) ?_
      refine Ew_of (pcₚ := 17) (fun _ => x_aload_n rfl l6_1) ?_
      refine Ew_of (pcₚ := 19) (fun _ => x_iload rfl l6_5) ?_
      refine v_lB H (o := 1) rfl rfl rfl rfl (n := n1) (en1) (show 0 ≤ x6_5 ∧ x6_5 < n1 from q_3412 b4 h2 j6_4) (fun v5 ev5 qv5 => ?_)
      have ev5 : (A 1) (x6_5) = v5 := (congrFun (funext (mA_6 1 rfl)) (x6_5)).symm.trans ev5
      refine Ew_of (pcₚ := 23) (fun _ => x_sipush (z := 255) rfl (by decide)) ?_
      refine w_iand rfl (show inr (v5) from q_2536 qv5) (show inr (255) from q_36) (fun z6 gz6 gaz6 gbz6 => ?_)
      have hlb := hln ((z6)) (by omega) (by omega)
      refine v_lI H (o := 2) rfl rfl rfl rfl (n := n2) (en2) (show 0 ≤ z6 ∧ z6 < n2 by omega) (fun v7 ev7 qv7 => ?_)
      have ev7 : (w2) (z6) = v7 := (congrFun ((funext (mA_6 2 rfl)).trans (ew2)) (z6)).symm.trans ev7
      rw [ev7] at hlb
      refine Ew_of (pcₚ := 27) (fun _ => x_istore rfl) ?_
      refine Ew_of (pcₚ := 29) (fun _ => x_iload rfl rk_s) ?_
      refine w_ifne (t := 34) rfl rfl (show inr (v7) from qv7) (fun b8 => ?_) (fun b8 => ?_)
      · refine Ew_of (pcₚ := 36) (fun _ => x_iload rfl (rk_o (l6_4) rfl rfl)) ?_
        refine Ew_of (pcₚ := 38) (fun _ => x_iload rfl rk_s) ?_
        refine w_iadd rfl ?_
        refine Ew_of (pcₚ := 41) (fun _ => x_istore rfl) ?_
        refine Ew_of (pcₚ := 44) (fun _ => x_iinc (len := 3) rfl (rk_o (rk_o (l6_5) rfl rfl) rfl rfl)) ?_
        refine Ew_of (pcₚ := 6) (fun _ => x_goto rfl rfl) ?_
        exact ih6 _ (msE hm6 q_31 (q_34 b4)) _ _ _ _ ((x6_4 + v7)) ((x6_5 + 1)) (rk_o (rk_o (rk_o (l6_0) rfl rfl) rfl rfl) rfl rfl) (rk_o (rk_o (rk_o (l6_1) rfl rfl) rfl rfl) rfl rfl) (rk_o (rk_o (rk_o (l6_3) rfl rfl) rfl rfl) rfl rfl) (rk_o (rk_s) rfl rfl) (rk_s) H O (hS_6) (hA_6)     (show inr ((x6_4 + v7)) by omega) (show inr ((x6_5 + 1)) from q_3414 b4 h2 j6_1) (show (a2) ≤ ((x6_5 + 1)) from q_3413 j6_4) (show ((x6_5 + 1)) ≤ (a2) ∨ ((x6_5 + 1)) ≤ ((a3)) from q_104 b4) (show 0 ≤ ((x6_4 + v7)) ∧ ((x6_4 + v7)) ≤ 11 * (((x6_5 + 1)) - (a2)) by omega) rfl
      · refine Ew_of (pcₚ := 33) (fun _ => x_iconst rfl) ?_
        exact w_ireturn rfl (k (0) _ _ _ H O (cF_6) (cA_6) (show inr (0) from q_20) (show 0 ≤ (0) ∧ (0) ≤ 100000 by first | exact q_3415 | omega))
abbrev V111_Row_Br : vV := [(0, 3, [(4, 0), (4, 0), (4, 0), (0, 0), (4, 0), (4, 0), (4, 0), (4, 0), (4, 0), (4, 0), (4, 0), (4, 0), (4, 0), (0, 0), (0, 0), (0, 0), (0, 0)]), (0, 7, [(4, 0), (0, 0), (1, 0), (0, 0), (0, 0)]), (1, 0, []), (1, 0, []), (1, 1, []), (1, 1, [])]
theorem len_V111_Row_Br_oz_F4cls : (V111_Row_Br).length = 6 := by decide +kernel
theorem oz_F4cls_17 : vsub V111_Row_Br V157 [1, 3] = true := by decide +kernel
theorem oz_F4cls_18 : vmov V111_Row_Br [1, 3] [1] = true := by decide +kernel
theorem oz_F4cls_19 : vsub V111_Row_Br V164 [1, 3] = true := by decide +kernel
theorem oz_F4cls_20 : vsub V111_Row_Br V165 [1, 3] = true := by decide +kernel
def oz_F4clsl_9 : List (Nat × Nat) := [(1, 0), (1, 1), (1, 2), (1, 3), (1, 4)]
theorem oz_F4cls_21 : (oz_F4clsl_9).all (fun p => !tbz 133143986176 (Nat.add (Nat.mul 32 p.1) p.2)) = true := by decide +kernel
def oz_F4clsl_10 : List Nat := [3]
theorem oz_F4cls_22 : (oz_F4clsl_10).all (fun p => !tbz 8 p) = true := by decide +kernel
def oz_F4clsl_11 : List Nat := [1, 3]
theorem oz_F4cls_23 : okc oz_F4clsl_11 1537 = true := by decide +kernel
/-- Codes.pack: this, #1, #2, #1.bytes, this.lengths, this.codes -/
theorem C111_Row_Br {σE : rS} {D N : Nat → Nat} {F : hF} {A : hA} {d c s : Nat} {Q : wQ} (H : HW V111_Row_Br σE D N F A) {a3 a4 : Int} (pf3 : F 1 0 = (D 3 : Int)) (pf4 : F 0 0 = (D 4 : Int)) (pf5 : F 0 1 = (D 5 : Int)) (n2 : Int) (en2 : (N 2 : Int) = n2) (n3 : Int) (en3 : (N 3 : Int) = n3) (n4 : Int) (en4 : (N 4 : Int) = n4) (n5 : Int) (en5 : (N 5 : Int) = n5) (u0_3 : Int) (eu0_3 : F 0 3 = u0_3) (u1_1 : Int) (eu1_1 : F 1 1 = u1_1) (u1_4 : Int) (eu1_4 : F 1 4 = u1_4) (w4 : Int → Int) (ew4 : A 4 = w4) (h0 : inr (a3)) (h1 : inr (a4)) (h2 : 0 ≤ (u1_1) ∧ (u1_1) ≤ (n3) ∧ (n3) ≤ 65536) (h3 : 0 ≤ (u1_4) ∧ (u1_4) ≤ 7) (h4 : 0 ≤ (a3) ∧ (a3) ≤ (a4) ∧ (a4) ≤ (n2) ∧ (n2) ≤ 65536) (h5 : 0 ≤ ((u0_3)) ∧ ((u0_3)) ≤ 11) (h6 : LNG ((w4)) ((u0_3))) (h7 : (n4) = 256 ∧ (n5) = 256) (k : ∀ (σ : rS) (Dₚ Nₚ : Nat → Nat) (Fₚ : hF) (Aₚ : hA) (cₚ sₚ : Nat), HW V111_Row_Br σ Dₚ Nₚ Fₚ Aₚ → OUT (V111_Row_Br).length D N σE c s Dₚ Nₚ σ cₚ sₚ → SD [3] D Dₚ → SD [3] N Nₚ → SF [(1, 0), (1, 1), (1, 2), (1, 3), (1, 4)] F Fₚ → SA [3] A Aₚ → Fₚ 1 0 = (Dₚ 3 : Int) → ∀ m3 : Int, (Nₚ 3 : Int) = m3 → ∀ y1_1 : Int, Fₚ 1 1 = y1_1 → ∀ y1_4 : Int, Fₚ 1 4 = y1_4 → (0 ≤ (y1_1) ∧ (y1_1) ≤ (m3) ∧ (m3) ≤ 65536) → ((y1_4) = 0) → ((u1_1) ≤ (y1_1)) → Q none σ cₚ sₚ) : Ew 111 (d + 2) 0 (rargs 0 [.ref (D 0), .ref (D 1), .ref (D 2), I a3, I a4]) [] σE c s Q := by
  have O := OUT_refl (n := (V111_Row_Br).length) (D := D) (N := N) (σ := σE) (c := c) (s := s)
  have HE := H
  have r1 : (-2147483648 : Int) ≤ u0_3 ∧ u0_3 ≤ 2147483647 := rngE (show (-2147483648 : Int) ≤ F 0 3 ∧ F 0 3 ≤ 2147483647 from H.krg 0 3 (ltn len_V111_Row_Br_oz_F4cls rfl)) (show F 0 3 = u0_3 from (eu0_3))
  have r2 : (-2147483648 : Int) ≤ u1_1 ∧ u1_1 ≤ 2147483647 := rngE (show (-2147483648 : Int) ≤ F 1 1 ∧ F 1 1 ≤ 2147483647 from H.krg 1 1 (ltn len_V111_Row_Br_oz_F4cls rfl)) (show F 1 1 = u1_1 from (eu1_1))
  have r3 : (-2147483648 : Int) ≤ u1_4 ∧ u1_4 ≤ 2147483647 := rngE (show (-2147483648 : Int) ≤ F 1 4 ∧ F 1 4 ≤ 2147483647 from H.krg 1 4 (ltn len_V111_Row_Br_oz_F4cls rfl)) (show F 1 4 = u1_4 from (eu1_4))
  have r4 : (0 : Int) ≤ n2 ∧ n2 ≤ 1000000 := nleE (H.nle 2 (ltn len_V111_Row_Br_oz_F4cls rfl)) (show (N 2 : Int) = n2 from en2)
  have r5 : (0 : Int) ≤ n3 ∧ n3 ≤ 1000000 := nleE (H.nle 3 (ltn len_V111_Row_Br_oz_F4cls rfl)) (show (N 3 : Int) = n3 from en3)
  have r6 : (0 : Int) ≤ n4 ∧ n4 ≤ 1000000 := nleE (H.nle 4 (ltn len_V111_Row_Br_oz_F4cls rfl)) (show (N 4 : Int) = n4 from en4)
  have r7 : (0 : Int) ≤ n5 ∧ n5 ≤ 1000000 := nleE (H.nle 5 (ltn len_V111_Row_Br_oz_F4cls rfl)) (show (N 5 : Int) = n5 from en5)
  have hln : LNG ((w4)) ((u0_3)) := h6
  refine Ew_of (pcₚ := 1) (fun _ => x_aload_n rfl rfl) ?_
  refine Ew_of (pcₚ := 2) (fun _ => x_iconst rfl) ?_
  refine Ew_of (pcₚ := 4) (fun _ => x_iload rfl rfl) ?_
  refine Ew_of (pcₚ := 5) (fun _ => x_iload_n rfl rfl) ?_
  refine w_isub rfl ?_
  refine w_imul rfl ?_
  refine Ew_of (pcₚ := 8) (fun _ => x_iconst rfl) ?_
  refine w_iadd rfl ?_
  refine v_inv H (o := 1) rfl rfl rfl rfl rfl rfl (by rfl) (C157 (D := puc 1537 D) (N := puc 1537 N) (HW_subc H oz_F4cls_17 oz_F4cls_23) (pf3) (n3) (en3) (u1_1) ((eu1_1)) (A 3) (rfl) (show inr (((2 * (a4 - a3)) + 2)) from q_3416 h4) (show 0 ≤ (u1_1) ∧ (u1_1) ≤ (n3) ∧ (n3) ≤ 65536 from h2) (fun z8 σ8 D8ₚ N8ₚ F8ₚ A8ₚ c8 s8 Hₚ Oₚ hD8 hN8 hS8 hA8 pm8_1 m8_1 em8_1 w8_1 ew8_1 pz8_0 pz8_1 pz8_2 pz8_3 pz8_4 => ⟨rretB rfl pz8_0, ?_⟩))
  refine v_backMc (c := c) (s := s) H oz_F4cls_17 oz_F4cls_23 Hₚ Oₚ hD8 oz_F4cls_18 (fun D8 N8 F8 A8 H Oₚ eD8 eN8 eF8 eA8 => ?_)
  have O := OUT_trans O Oₚ
  -- Row.reserve
  have cF8 : SF oz_F4clsl_9 F F8 := SF_trans (SF_refl) (SF_gluc (ι := oz_F4clsl_11) oz_F4cls_23 hS8 eF8 (by decide +kernel)) (any_sub (lₚ := [(1, 0)]) (by decide +kernel))
  have mF8 := SFm_of cF8 oz_F4cls_21
  have cA8 : SA oz_F4clsl_10 A A8 := SA_trans (SA_refl) (SA_gluc (ι := oz_F4clsl_11) oz_F4cls_23 hA8 eA8 (by decide +kernel)) (any_subA (lₚ := [3]) (by decide +kernel))
  have mA8 := SAm_of cA8 oz_F4cls_22
  have cD8 : SD oz_F4clsl_10 D D8 := SD_trans (SD_refl) (SD_gluc (ι := oz_F4clsl_11) oz_F4cls_23 hD8 eD8 (by decide +kernel)) (any_subA (lₚ := [3]) (by decide +kernel))
  have mD8 := SDm_of cD8 oz_F4cls_22
  have cN8 : SD oz_F4clsl_10 N N8 := SD_trans (SD_refl) (SD_gluc (ι := oz_F4clsl_11) oz_F4cls_23 hN8 eN8 (by decide +kernel)) (any_subA (lₚ := [3]) (by decide +kernel))
  have mN8 := SDm_of cN8 oz_F4cls_22
  have pf8_1_0 : F8 1 0 = (D8 3 : Int) := (eF8 1 0).trans (pm8_1.trans (congrArg (fun q : Nat => (q : Int)) (eD8 3).symm))
  have r9 : (0 : Int) ≤ m8_1 ∧ m8_1 ≤ 1000000 := nleE (H.nle 3 (ltn len_V111_Row_Br_oz_F4cls rfl)) (show (N8 3 : Int) = m8_1 from (congrArg (fun q : Nat => (q : Int)) (eN8 3)).trans em8_1)
  refine Ew_of (pcₚ := 13) (fun _ => x_pop rfl rfl) ?_
  refine Ew_of (pcₚ := 15) (fun _ => x_iload rfl rfl) ?_
  refine Ew_of (pcₚ := 16) (fun _ => x_iconst rfl) ?_
  refine w_isub rfl ?_
  refine Ew_of (pcₚ := 19) (fun _ => x_istore rfl) ?_
  suffices hl19 : ∀ (m : Nat), ∀ (ls : rO) (σ : rS) (F_19 : hF) (A_19 : hA) (x19_5 : Int), rlook ls 0 = some (.ref (D8 0)) → rlook ls 1 = some (.ref (D8 1)) → rlook ls 2 = some (.ref (D8 2)) → rlook ls 3 = some (I (a3)) → rlook ls 5 = some (I (x19_5)) → HW V111_Row_Br σ D8 N8 F_19 A_19 → OUT (V111_Row_Br).length D N σE c s D8 N8 σ (c + c8) (s + s8) → SF [(1, 1), (1, 2), (1, 3), (1, 4)] F8 F_19 → SA [3] A8 A_19 → ∀ y19_1_1 : Int, F_19 1 1 = y19_1_1 → ∀ y19_1_4 : Int, F_19 1 4 = y19_1_4 → (inr (x19_5)) → ((x19_5) ≤ ((a4 - 1))) → (((a4 - 1)) ≤ (x19_5) ∨ (((a3) - 1)) ≤ (x19_5)) → (0 ≤ (y19_1_1) ∧ (y19_1_1) ≤ (m8_1) ∧ (m8_1) ≤ 65536) → (0 ≤ (y19_1_4) ∧ (y19_1_4) ≤ 7) → ((u1_1) ≤ (y19_1_1)) → ((x19_5) - (((a3) - 1))).toNat = m → Ew 111 (d + 2) 19 ls [] σ (c + c8) (s + s8) Q from
    hl19 _ _ _ _ _ ((a4 - 1)) ((rk_o (rfl) rfl rfl).trans (congrArg (fun q : Nat => some (Value.ref q)) (mD8 0 rfl).symm)) ((rk_o (rfl) rfl rfl).trans (congrArg (fun q : Nat => some (Value.ref q)) (mD8 1 rfl).symm)) ((rk_o (rfl) rfl rfl).trans (congrArg (fun q : Nat => some (Value.ref q)) (mD8 2 rfl).symm)) (rk_o (rfl) rfl rfl) (rk_s) H O (SF_refl) (SA_refl)   (u1_1) ((((show F8 1 1 = F 1 1 from (eF8 1 1).trans (hS8 0 1 rfl))).trans (eu1_1))) (u1_4) ((((show F8 1 4 = F 1 4 from (eF8 1 4).trans (hS8 0 4 rfl))).trans (eu1_4)))  (show inr ((a4 - 1)) from q_629 h4) (show ((a4 - 1)) ≤ ((a4 - 1)) from q_163) (show ((a4 - 1)) ≤ ((a4 - 1)) ∨ (((a3) - 1)) ≤ ((a4 - 1)) from q_1909) (show 0 ≤ (u1_1) ∧ (u1_1) ≤ (m8_1) ∧ (m8_1) ≤ 65536 from pz8_1) (show 0 ≤ (u1_4) ∧ (u1_4) ≤ 7 from h3) (show (u1_1) ≤ (u1_1) from q_102) rfl
  as_aux_lemma =>
  intro m
  induction m using Nat.strongRecOn with
  | _ m ih19 =>
    intro ls σ F_19 A_19 x19_5 l19_0 l19_1 l19_2 l19_3 l19_5 H O hS_19 hA_19   y19_1_1 ey19_1_1 y19_1_4 ey19_1_4  j19_0 j19_1 j19_2 j19_3 j19_4 j19_5 hm19
    have cF_19 : SF oz_F4clsl_9 F F_19 := SF_trans (cF8) hS_19 (any_sub (by decide +kernel))
    have mF_19 := SFm_of cF_19 oz_F4cls_21
    have cA_19 : SA oz_F4clsl_10 A A_19 := SA_trans (cA8) hA_19 (any_subA (by decide +kernel))
    have mA_19 := SAm_of cA_19 oz_F4cls_22
    have r10 : (-2147483648 : Int) ≤ y19_1_1 ∧ y19_1_1 ≤ 2147483647 := rngE (show (-2147483648 : Int) ≤ F_19 1 1 ∧ F_19 1 1 ≤ 2147483647 from H.krg 1 1 (ltn len_V111_Row_Br_oz_F4cls rfl)) (show F_19 1 1 = y19_1_1 from (ey19_1_1))
    have r11 : (-2147483648 : Int) ≤ y19_1_4 ∧ y19_1_4 ≤ 2147483647 := rngE (show (-2147483648 : Int) ≤ F_19 1 4 ∧ F_19 1 4 ≤ 2147483647 from H.krg 1 4 (ltn len_V111_Row_Br_oz_F4cls rfl)) (show F_19 1 4 = y19_1_4 from (ey19_1_4))
    refine Ew_of (pcₚ := 21) (fun _ => x_iload rfl l19_5) ?_
    refine Ew_of (pcₚ := 22) (fun _ => x_iload_n rfl l19_3) ?_
    refine w_icmplt (t := 59) rfl rfl (show inr (x19_5) from j19_0) (show inr (a3) from h0) (fun b12 => ?_) (fun b12 => ?_)
    · refine Ew_of (pcₚ := 60) (fun _ => x_aload_n rfl l19_1) ?_
      refine Ew_of (pcₚ := 61) (fun _ => x_iconst rfl) ?_
      refine Ew_of (pcₚ := 62) (fun _ => x_iconst rfl) ?_
      refine v_inv H (o := 1) rfl rfl rfl rfl rfl rfl (by rfl) (C164 (D := puc 1537 D8) (N := puc 1537 N8) (HW_subc H oz_F4cls_19 oz_F4cls_23) (((hS_19 1 0 rfl)).trans (pf8_1_0)) (m8_1) ((congrArg (fun q : Nat => (q : Int)) (eN8 3)).trans em8_1) (y19_1_1) ((ey19_1_1)) (y19_1_4) ((ey19_1_4)) (show inr (1) from q_23) (show inr (1) from q_23) (show 0 ≤ (y19_1_1) ∧ (y19_1_1) ≤ (m8_1) ∧ (m8_1) ≤ 65536 from j19_3) (show 0 ≤ (1) ∧ (1) ≤ 31 from q_1911) (show 0 ≤ (y19_1_4) ∧ (y19_1_4) ≤ 7 from j19_4) (fun σ13 F13ₚ A13ₚ Hₚ Oₚ hS13 hA13 y13_0_1 ey13_0_1 y13_0_4 ey13_0_4 pz13_0 pz13_1 pz13_2 => ⟨rfl, ?_⟩))
      refine v_backc (c := (c + c8)) (s := (s + s8)) H oz_F4cls_19 oz_F4cls_23 Hₚ Oₚ (fun F13 A13 H Oₚ eF13 eA13 => ?_)
      have O := OUT_trans O Oₚ
      -- Row.addBits
      have cF13 : SF oz_F4clsl_9 F F13 := SF_trans (cF_19) (SF_gluc (ι := oz_F4clsl_11) oz_F4cls_23 hS13 eF13 (by decide +kernel)) (any_sub (lₚ := [(1, 1), (1, 2), (1, 3), (1, 4)]) (by decide +kernel))
      have mF13 := SFm_of cF13 oz_F4cls_21
      have cA13 : SA oz_F4clsl_10 A A13 := SA_trans (cA_19) (SA_gluc (ι := oz_F4clsl_11) oz_F4cls_23 hA13 eA13 (by decide +kernel)) (any_subA (lₚ := [3]) (by decide +kernel))
      have mA13 := SAm_of cA13 oz_F4cls_22
      have r14 : (-2147483648 : Int) ≤ y13_0_1 ∧ y13_0_1 ≤ 2147483647 := rngE (show (-2147483648 : Int) ≤ F13 1 1 ∧ F13 1 1 ≤ 2147483647 from H.krg 1 1 (ltn len_V111_Row_Br_oz_F4cls rfl)) (show F13 1 1 = y13_0_1 from ((eF13 1 1).trans ey13_0_1))
      have r15 : (-2147483648 : Int) ≤ y13_0_4 ∧ y13_0_4 ≤ 2147483647 := rngE (show (-2147483648 : Int) ≤ F13 1 4 ∧ F13 1 4 ≤ 2147483647 from H.krg 1 4 (ltn len_V111_Row_Br_oz_F4cls rfl)) (show F13 1 4 = y13_0_4 from ((eF13 1 4).trans ey13_0_4))
      refine Ew_of (pcₚ := 66) (fun _ => x_aload_n rfl l19_1) ?_
      refine v_inv H (o := 1) rfl rfl rfl rfl rfl rfl (by rfl) (C165h (D := puc 1537 D8) (N := puc 1537 N8) (HW_subc H oz_F4cls_20 oz_F4cls_23) (((((show F13 1 0 = F_19 1 0 from (eF13 1 0).trans (hS13 0 0 rfl))).trans (hS_19 1 0 rfl))).trans (pf8_1_0)) (m8_1) ((congrArg (fun q : Nat => (q : Int)) (eN8 3)).trans em8_1) (y13_0_1) (((eF13 1 1).trans ey13_0_1)) (y13_0_4) (((eF13 1 4).trans ey13_0_4)) (show 0 ≤ (y13_0_1) ∧ (y13_0_1) ≤ (m8_1) ∧ (m8_1) ≤ 65536 from pz13_0) (fun σ16 F16ₚ A16ₚ Hₚ Oₚ hS16 hA16 y16_0_1 ey16_0_1 y16_0_4 ey16_0_4 pz16_0 pz16_1 => ⟨rfl, ?_⟩))
      refine v_backc (c := (c + c8)) (s := (s + s8)) H oz_F4cls_20 oz_F4cls_23 Hₚ Oₚ (fun F16 A16 H Oₚ eF16 eA16 => ?_)
      have O := OUT_trans O Oₚ
      -- Row.endBits
      have cF16 : SF oz_F4clsl_9 F F16 := SF_trans (cF13) (SF_gluc (ι := oz_F4clsl_11) oz_F4cls_23 hS16 eF16 (by decide +kernel)) (any_sub (lₚ := [(1, 1), (1, 2), (1, 3), (1, 4)]) (by decide +kernel))
      have mF16 := SFm_of cF16 oz_F4cls_21
      have cA16 : SA oz_F4clsl_10 A A16 := SA_trans (cA13) (SA_gluc (ι := oz_F4clsl_11) oz_F4cls_23 hA16 eA16 (by decide +kernel)) (any_subA (lₚ := [3]) (by decide +kernel))
      have mA16 := SAm_of cA16 oz_F4cls_22
      have r17 : (-2147483648 : Int) ≤ y16_0_1 ∧ y16_0_1 ≤ 2147483647 := rngE (show (-2147483648 : Int) ≤ F16 1 1 ∧ F16 1 1 ≤ 2147483647 from H.krg 1 1 (ltn len_V111_Row_Br_oz_F4cls rfl)) (show F16 1 1 = y16_0_1 from ((eF16 1 1).trans ey16_0_1))
      have r18 : (-2147483648 : Int) ≤ y16_0_4 ∧ y16_0_4 ≤ 2147483647 := rngE (show (-2147483648 : Int) ≤ F16 1 4 ∧ F16 1 4 ≤ 2147483647 from H.krg 1 4 (ltn len_V111_Row_Br_oz_F4cls rfl)) (show F16 1 4 = y16_0_4 from ((eF16 1 4).trans ey16_0_4))
      exact w_ret rfl (k _ _ _ _ _ _ _ H O (cD8) (cN8) (cF16) (cA16) ((((((show F16 1 0 = F13 1 0 from (eF16 1 0).trans (hS16 0 0 rfl))).trans ((show F13 1 0 = F_19 1 0 from (eF13 1 0).trans (hS13 0 0 rfl)))).trans (hS_19 1 0 rfl))).trans (pf8_1_0)) (m8_1) ((congrArg (fun q : Nat => (q : Int)) (eN8 3)).trans em8_1) (y16_0_1) (((eF16 1 1).trans ey16_0_1)) (y16_0_4) (((eF16 1 4).trans ey16_0_4)) (show 0 ≤ (y16_0_1) ∧ (y16_0_1) ≤ (m8_1) ∧ (m8_1) ≤ 65536 from pz16_0) (show (y16_0_4) = 0 from q_3250 pz16_1) (show (u1_1) ≤ (y16_0_1) from q_3417 j19_5 pz13_1 pz16_1))
    · refine Ew_of (pcₚ := 26) (fun _ => x_aload_n rfl l19_2) ?_
      refine Ew_of (pcₚ := 28) (fun _ => x_iload rfl l19_5) ?_
      refine v_lB H (o := 2) rfl rfl rfl rfl (n := n2) ((congrArg (fun q : Nat => (q : Int)) (mN8 2 rfl)).trans (en2)) (show 0 ≤ x19_5 ∧ x19_5 < n2 from q_3418 b12 h4 j19_1) (fun v19 ev19 qv19 => ?_)
      have ev19 : (A 2) (x19_5) = v19 := (congrFun (funext (mA_19 2 rfl)) (x19_5)).symm.trans ev19
      refine Ew_of (pcₚ := 32) (fun _ => x_sipush (z := 255) rfl (by decide)) ?_
      refine w_iand rfl (show inr (v19) from q_2536 qv19) (show inr (255) from q_36) (fun z20 gz20 gaz20 gbz20 => ?_)
      refine Ew_of (pcₚ := 35) (fun _ => x_istore rfl) ?_
      refine Ew_of (pcₚ := 36) (fun _ => x_aload_n rfl (rk_o (l19_1) rfl rfl)) ?_
      refine Ew_of (pcₚ := 37) (fun _ => x_aload_n rfl (rk_o (l19_0) rfl rfl)) ?_
      refine v_g H (o := 0) (v := .ref (D8 5)) rfl rfl rfl rfl rfl (vrf ((mF_19 0 1 rfl).trans ((pf5).trans (congrArg (fun q : Nat => (q : Int)) (mD8 5 rfl).symm)))) ?_
      refine Ew_of (pcₚ := 42) (fun _ => x_iload rfl rk_s) ?_
      refine v_lI H (o := 5) rfl rfl rfl rfl (n := n5) ((congrArg (fun q : Nat => (q : Int)) (mN8 5 rfl)).trans (en5)) (show 0 ≤ z20 ∧ z20 < n5 by omega) (fun v21 ev21 qv21 => ?_)
      have ev21 : (A 5) (z20) = v21 := (congrFun (funext (mA_19 5 rfl)) (z20)).symm.trans ev21
      refine Ew_of (pcₚ := 44) (fun _ => x_aload_n rfl (rk_o (l19_0) rfl rfl)) ?_
      refine v_g H (o := 0) (v := .ref (D8 4)) rfl rfl rfl rfl rfl (vrf ((mF_19 0 0 rfl).trans ((pf4).trans (congrArg (fun q : Nat => (q : Int)) (mD8 4 rfl).symm)))) ?_
      refine Ew_of (pcₚ := 49) (fun _ => x_iload rfl rk_s) ?_
      refine v_lI H (o := 4) rfl rfl rfl rfl (n := n4) ((congrArg (fun q : Nat => (q : Int)) (mN8 4 rfl)).trans (en4)) (show 0 ≤ z20 ∧ z20 < n4 by omega) (fun v22 ev22 qv22 => ?_)
      have ev22 : (w4) (z20) = v22 := (congrFun ((funext (mA_19 4 rfl)).trans (ew4)) (z20)).symm.trans ev22
      have hlb := hln ((z20)) (by omega) (by omega)
      rw [ev22] at hlb
      refine v_inv H (o := 1) rfl rfl rfl rfl rfl rfl (by rfl) (C164 (D := puc 1537 D8) (N := puc 1537 N8) (HW_subc H oz_F4cls_19 oz_F4cls_23) (((hS_19 1 0 rfl)).trans (pf8_1_0)) (m8_1) ((congrArg (fun q : Nat => (q : Int)) (eN8 3)).trans em8_1) (y19_1_1) ((ey19_1_1)) (y19_1_4) ((ey19_1_4)) (show inr (v21) from qv21) (show inr (v22) from qv22) (show 0 ≤ (y19_1_1) ∧ (y19_1_1) ≤ (m8_1) ∧ (m8_1) ≤ 65536 from j19_3) (show 0 ≤ (v22) ∧ (v22) ≤ 31 by omega) (show 0 ≤ (y19_1_4) ∧ (y19_1_4) ≤ 7 from j19_4) (fun σ23 F23ₚ A23ₚ Hₚ Oₚ hS23 hA23 y23_0_1 ey23_0_1 y23_0_4 ey23_0_4 pz23_0 pz23_1 pz23_2 => ⟨rfl, ?_⟩))
      refine v_backc (c := (c + c8)) (s := (s + s8)) H oz_F4cls_19 oz_F4cls_23 Hₚ Oₚ (fun F23 A23 H Oₚ eF23 eA23 => ?_)
      have O := OUT_trans O Oₚ
      -- Row.addBits
      have cF23 : SF oz_F4clsl_9 F F23 := SF_trans (cF_19) (SF_gluc (ι := oz_F4clsl_11) oz_F4cls_23 hS23 eF23 (by decide +kernel)) (any_sub (lₚ := [(1, 1), (1, 2), (1, 3), (1, 4)]) (by decide +kernel))
      have mF23 := SFm_of cF23 oz_F4cls_21
      have cA23 : SA oz_F4clsl_10 A A23 := SA_trans (cA_19) (SA_gluc (ι := oz_F4clsl_11) oz_F4cls_23 hA23 eA23 (by decide +kernel)) (any_subA (lₚ := [3]) (by decide +kernel))
      have mA23 := SAm_of cA23 oz_F4cls_22
      have r24 : (-2147483648 : Int) ≤ y23_0_1 ∧ y23_0_1 ≤ 2147483647 := rngE (show (-2147483648 : Int) ≤ F23 1 1 ∧ F23 1 1 ≤ 2147483647 from H.krg 1 1 (ltn len_V111_Row_Br_oz_F4cls rfl)) (show F23 1 1 = y23_0_1 from ((eF23 1 1).trans ey23_0_1))
      have r25 : (-2147483648 : Int) ≤ y23_0_4 ∧ y23_0_4 ≤ 2147483647 := rngE (show (-2147483648 : Int) ≤ F23 1 4 ∧ F23 1 4 ≤ 2147483647 from H.krg 1 4 (ltn len_V111_Row_Br_oz_F4cls rfl)) (show F23 1 4 = y23_0_4 from ((eF23 1 4).trans ey23_0_4))
      refine Ew_of (pcₚ := 56) (fun _ => x_iinc (len := 3) rfl (rk_o (l19_5) rfl rfl)) ?_
      refine Ew_of (pcₚ := 19) (fun _ => x_goto rfl rfl) ?_
      exact ih19 _ (msE hm19 q_1920 (q_1921 b12)) _ _ _ _ ((x19_5 + (-1))) (rk_o (rk_o (l19_0) rfl rfl) rfl rfl) (rk_o (rk_o (l19_1) rfl rfl) rfl rfl) (rk_o (rk_o (l19_2) rfl rfl) rfl rfl) (rk_o (rk_o (l19_3) rfl rfl) rfl rfl) (rk_s) H O (SF_trans (hS_19) (SF_gluc (ι := oz_F4clsl_11) oz_F4cls_23 hS23 eF23 (by decide +kernel)) (any_sub (lₚ := [(1, 1), (1, 2), (1, 3), (1, 4)]) (by decide +kernel))) (SA_trans (hA_19) (SA_gluc (ι := oz_F4clsl_11) oz_F4cls_23 hA23 eA23 (by decide +kernel)) (any_subA (lₚ := [3]) (by decide +kernel)))   (y23_0_1) (((eF23 1 1).trans ey23_0_1)) (y23_0_4) (((eF23 1 4).trans ey23_0_4))  (show inr ((x19_5 + (-1))) from q_632 b12 h4 j19_0) (show ((x19_5 + (-1))) ≤ ((a4 - 1)) from q_174 j19_1) (show ((a4 - 1)) ≤ ((x19_5 + (-1))) ∨ (((a3) - 1)) ≤ ((x19_5 + (-1))) from q_1917 b12) (show 0 ≤ (y23_0_1) ∧ (y23_0_1) ≤ (m8_1) ∧ (m8_1) ≤ 65536 from pz23_0) (show 0 ≤ (y23_0_4) ∧ (y23_0_4) ≤ 7 from pz23_2) (show (u1_1) ≤ (y23_0_1) from q_1975 j19_5 pz23_1) rfl
abbrev V105_Row : vV := [(0, 3, [(4, 0), (4, 0), (4, 0), (0, 0), (4, 0), (4, 0), (4, 0), (4, 0), (4, 0), (4, 0), (4, 0), (4, 0), (4, 0), (0, 0), (0, 0), (0, 0), (0, 0)]), (0, 7, [(4, 0), (0, 0), (1, 0), (0, 0), (0, 0)]), (1, 0, []), (1, 1, [])]
theorem len_V105_Row_oz_F4cls : (V105_Row).length = 4 := by decide +kernel
theorem oz_F4cls_25 : vsub V105_Row V157 [1, 2] = true := by decide +kernel
theorem oz_F4cls_26 : vmov V105_Row [1, 2] [1] = true := by decide +kernel
theorem oz_F4cls_27 : vsub V105_Row V164 [1, 2] = true := by decide +kernel
def oz_F4clsl_12 : List Nat := [2]
theorem oz_F4cls_28 : (oz_F4clsl_12).all (fun p => !tbz 4 p) = true := by decide +kernel
def oz_F4clsl_13 : List Nat := [1, 2]
theorem oz_F4cls_29 : okc oz_F4clsl_13 1025 = true := by decide +kernel
/-- Codes.describeDirectly: this, #1, #1.bytes, this.weights -/
theorem C105_Row {σE : rS} {D N : Nat → Nat} {F : hF} {A : hA} {d c s : Nat} {Q : wQ} (H : HW V105_Row σE D N F A) {a2 : Int} (pf2 : F 1 0 = (D 2 : Int)) (pf3 : F 0 4 = (D 3 : Int)) (n2 : Int) (en2 : (N 2 : Int) = n2) (n3 : Int) (en3 : (N 3 : Int) = n3) (u1_1 : Int) (eu1_1 : F 1 1 = u1_1) (u1_4 : Int) (eu1_4 : F 1 4 = u1_4) (h0 : inr (a2)) (h1 : 0 ≤ (u1_1) ∧ (u1_1) ≤ (n2) ∧ (n2) ≤ 65536) (h2 : 0 ≤ (u1_4) ∧ (u1_4) ≤ 7) (h3 : 0 ≤ (a2) ∧ (a2) ≤ 255) (h4 : (n3) = 256) (k : ∀ (σ : rS) (Dₚ Nₚ : Nat → Nat) (Fₚ : hF) (Aₚ : hA) (cₚ sₚ : Nat), HW V105_Row σ Dₚ Nₚ Fₚ Aₚ → OUT (V105_Row).length D N σE c s Dₚ Nₚ σ cₚ sₚ → SD [2] D Dₚ → SD [2] N Nₚ → SF [(1, 0), (1, 1), (1, 2), (1, 3), (1, 4)] F Fₚ → SA [2] A Aₚ → Fₚ 1 0 = (Dₚ 2 : Int) → ∀ m2 : Int, (Nₚ 2 : Int) = m2 → ∀ y1_1 : Int, Fₚ 1 1 = y1_1 → ∀ y1_4 : Int, Fₚ 1 4 = y1_4 → (0 ≤ (y1_1) ∧ (y1_1) ≤ (m2) ∧ (m2) ≤ 65536) → (0 ≤ (y1_4) ∧ (y1_4) ≤ 7) → ((u1_1) ≤ (y1_1)) → Q none σ cₚ sₚ) : Ew 105 (d + 2) 0 (rargs 0 [.ref (D 0), .ref (D 1), I a2]) [] σE c s Q := by
  have O := OUT_refl (n := (V105_Row).length) (D := D) (N := N) (σ := σE) (c := c) (s := s)
  have HE := H
  have r1 : (-2147483648 : Int) ≤ u1_1 ∧ u1_1 ≤ 2147483647 := rngE (show (-2147483648 : Int) ≤ F 1 1 ∧ F 1 1 ≤ 2147483647 from H.krg 1 1 (ltn len_V105_Row_oz_F4cls rfl)) (show F 1 1 = u1_1 from (eu1_1))
  have r2 : (-2147483648 : Int) ≤ u1_4 ∧ u1_4 ≤ 2147483647 := rngE (show (-2147483648 : Int) ≤ F 1 4 ∧ F 1 4 ≤ 2147483647 from H.krg 1 4 (ltn len_V105_Row_oz_F4cls rfl)) (show F 1 4 = u1_4 from (eu1_4))
  have r3 : (0 : Int) ≤ n2 ∧ n2 ≤ 1000000 := nleE (H.nle 2 (ltn len_V105_Row_oz_F4cls rfl)) (show (N 2 : Int) = n2 from en2)
  have r4 : (0 : Int) ≤ n3 ∧ n3 ≤ 1000000 := nleE (H.nle 3 (ltn len_V105_Row_oz_F4cls rfl)) (show (N 3 : Int) = n3 from en3)
  refine Ew_of (pcₚ := 1) (fun _ => x_aload_n rfl rfl) ?_
  refine Ew_of (pcₚ := 2) (fun _ => x_iconst rfl) ?_
  refine Ew_of (pcₚ := 3) (fun _ => x_iload_n rfl rfl) ?_
  refine w_iadd rfl ?_
  refine v_inv H (o := 1) rfl rfl rfl rfl rfl rfl (by rfl) (C157 (D := puc 1025 D) (N := puc 1025 N) (HW_subc H oz_F4cls_25 oz_F4cls_29) (pf2) (n2) (en2) (u1_1) ((eu1_1)) (A 2) (rfl) (show inr ((1 + a2)) from q_3419 h3) (show 0 ≤ (u1_1) ∧ (u1_1) ≤ (n2) ∧ (n2) ≤ 65536 from h1) (fun z5 σ5 D5ₚ N5ₚ F5ₚ A5ₚ c5 s5 Hₚ Oₚ hD5 hN5 hS5 hA5 pm5_1 m5_1 em5_1 w5_1 ew5_1 pz5_0 pz5_1 pz5_2 pz5_3 pz5_4 => ⟨rretB rfl pz5_0, ?_⟩))
  refine v_backMc (c := c) (s := s) H oz_F4cls_25 oz_F4cls_29 Hₚ Oₚ hD5 oz_F4cls_26 (fun D5 N5 F5 A5 H Oₚ eD5 eN5 eF5 eA5 => ?_)
  have O := OUT_trans O Oₚ
  -- Row.reserve
  have cF5 : SF oz_F4clsl_9 F F5 := SF_trans (SF_refl) (SF_gluc (ι := oz_F4clsl_13) oz_F4cls_29 hS5 eF5 (by decide +kernel)) (any_sub (lₚ := [(1, 0)]) (by decide +kernel))
  have mF5 := SFm_of cF5 oz_F4cls_21
  have cA5 : SA oz_F4clsl_12 A A5 := SA_trans (SA_refl) (SA_gluc (ι := oz_F4clsl_13) oz_F4cls_29 hA5 eA5 (by decide +kernel)) (any_subA (lₚ := [2]) (by decide +kernel))
  have mA5 := SAm_of cA5 oz_F4cls_28
  have cD5 : SD oz_F4clsl_12 D D5 := SD_trans (SD_refl) (SD_gluc (ι := oz_F4clsl_13) oz_F4cls_29 hD5 eD5 (by decide +kernel)) (any_subA (lₚ := [2]) (by decide +kernel))
  have mD5 := SDm_of cD5 oz_F4cls_28
  have cN5 : SD oz_F4clsl_12 N N5 := SD_trans (SD_refl) (SD_gluc (ι := oz_F4clsl_13) oz_F4cls_29 hN5 eN5 (by decide +kernel)) (any_subA (lₚ := [2]) (by decide +kernel))
  have mN5 := SDm_of cN5 oz_F4cls_28
  have pf5_1_0 : F5 1 0 = (D5 2 : Int) := (eF5 1 0).trans (pm5_1.trans (congrArg (fun q : Nat => (q : Int)) (eD5 2).symm))
  have r6 : (0 : Int) ≤ m5_1 ∧ m5_1 ≤ 1000000 := nleE (H.nle 2 (ltn len_V105_Row_oz_F4cls rfl)) (show (N5 2 : Int) = m5_1 from (congrArg (fun q : Nat => (q : Int)) (eN5 2)).trans em5_1)
  refine Ew_of (pcₚ := 8) (fun _ => x_pop rfl rfl) ?_
  refine Ew_of (pcₚ := 9) (fun _ => x_aload_n rfl rfl) ?_
  refine Ew_of (pcₚ := 11) (fun _ => x_bipush (z := 127) rfl (by decide)) ?_
  refine Ew_of (pcₚ := 12) (fun _ => x_iload_n rfl rfl) ?_
  refine w_iadd rfl ?_
  refine Ew_of (pcₚ := 15) (fun _ => x_bipush (z := 8) rfl (by decide)) ?_
  refine Ew_stk (congrArg (fun qz : Nat => ([I (8), I ((127 + a2)), .ref qz] : List Value)) (show D5 1 = D 1 from mD5 1 rfl).symm) ?_
  refine v_inv H (o := 1) rfl rfl rfl rfl rfl rfl (by rfl) (C164 (D := puc 1025 D5) (N := puc 1025 N5) (HW_subc H oz_F4cls_27 oz_F4cls_29) (pf5_1_0) (m5_1) ((congrArg (fun q : Nat => (q : Int)) (eN5 2)).trans em5_1) (u1_1) ((((show F5 1 1 = F 1 1 from (eF5 1 1).trans (hS5 0 1 rfl))).trans (eu1_1))) (u1_4) ((((show F5 1 4 = F 1 4 from (eF5 1 4).trans (hS5 0 4 rfl))).trans (eu1_4))) (show inr ((127 + a2)) from q_3420 h3) (show inr (8) from q_96) (show 0 ≤ (u1_1) ∧ (u1_1) ≤ (m5_1) ∧ (m5_1) ≤ 65536 from pz5_1) (show 0 ≤ (8) ∧ (8) ≤ 31 from q_2192) (show 0 ≤ (u1_4) ∧ (u1_4) ≤ 7 from h2) (fun σ7 F7ₚ A7ₚ Hₚ Oₚ hS7 hA7 y7_0_1 ey7_0_1 y7_0_4 ey7_0_4 pz7_0 pz7_1 pz7_2 => ⟨rfl, ?_⟩))
  refine v_backc (c := (c + c5)) (s := (s + s5)) H oz_F4cls_27 oz_F4cls_29 Hₚ Oₚ (fun F7 A7 H Oₚ eF7 eA7 => ?_)
  have O := OUT_trans O Oₚ
  -- Row.addBits
  have cF7 : SF oz_F4clsl_9 F F7 := SF_trans (cF5) (SF_gluc (ι := oz_F4clsl_13) oz_F4cls_29 hS7 eF7 (by decide +kernel)) (any_sub (lₚ := [(1, 1), (1, 2), (1, 3), (1, 4)]) (by decide +kernel))
  have mF7 := SFm_of cF7 oz_F4cls_21
  have cA7 : SA oz_F4clsl_12 A A7 := SA_trans (cA5) (SA_gluc (ι := oz_F4clsl_13) oz_F4cls_29 hA7 eA7 (by decide +kernel)) (any_subA (lₚ := [2]) (by decide +kernel))
  have mA7 := SAm_of cA7 oz_F4cls_28
  have r8 : (-2147483648 : Int) ≤ y7_0_1 ∧ y7_0_1 ≤ 2147483647 := rngE (show (-2147483648 : Int) ≤ F7 1 1 ∧ F7 1 1 ≤ 2147483647 from H.krg 1 1 (ltn len_V105_Row_oz_F4cls rfl)) (show F7 1 1 = y7_0_1 from ((eF7 1 1).trans ey7_0_1))
  have r9 : (-2147483648 : Int) ≤ y7_0_4 ∧ y7_0_4 ≤ 2147483647 := rngE (show (-2147483648 : Int) ≤ F7 1 4 ∧ F7 1 4 ≤ 2147483647 from H.krg 1 4 (ltn len_V105_Row_oz_F4cls rfl)) (show F7 1 4 = y7_0_4 from ((eF7 1 4).trans ey7_0_4))
  refine Ew_of (pcₚ := 19) (fun _ => x_iconst rfl) ?_
  refine Ew_of (pcₚ := 20) (fun _ => x_istore_n rfl) ?_
  suffices hl20 : ∀ (m : Nat), ∀ (ls : rO) (σ : rS) (F_20 : hF) (A_20 : hA) (x20_3 : Int), rlook ls 0 = some (.ref (D5 0)) → rlook ls 1 = some (.ref (D5 1)) → rlook ls 2 = some (I (a2)) → rlook ls 3 = some (I (x20_3)) → HW V105_Row σ D5 N5 F_20 A_20 → OUT (V105_Row).length D N σE c s D5 N5 σ (c + c5) (s + s5) → SF [(1, 1), (1, 2), (1, 3), (1, 4)] F7 F_20 → SA [2] A7 A_20 → ∀ y20_1_1 : Int, F_20 1 1 = y20_1_1 → ∀ y20_1_4 : Int, F_20 1 4 = y20_1_4 → (inr (x20_3)) → (0 ≤ (x20_3) ∧ (x20_3) ≤ (a2) + 1) → (0 ≤ (y20_1_1) ∧ (y20_1_1) ≤ (m5_1) ∧ (m5_1) ≤ 65536) → (0 ≤ (y20_1_4) ∧ (y20_1_4) ≤ 7) → ((u1_1) ≤ (y20_1_1)) → ((a2) - (x20_3)).toNat = m → Ew 105 (d + 2) 20 ls [] σ (c + c5) (s + s5) Q from
    hl20 _ _ _ _ _ (0) ((rk_o (rfl) rfl rfl).trans (congrArg (fun q : Nat => some (Value.ref q)) (mD5 0 rfl).symm)) ((rk_o (rfl) rfl rfl).trans (congrArg (fun q : Nat => some (Value.ref q)) (mD5 1 rfl).symm)) (rk_o (rfl) rfl rfl) (rk_s) H O (SF_refl) (SA_refl)   (y7_0_1) (((eF7 1 1).trans ey7_0_1)) (y7_0_4) (((eF7 1 4).trans ey7_0_4))  (show inr (0) from q_20) (show 0 ≤ (0) ∧ (0) ≤ (a2) + 1 from q_3421 h3) (show 0 ≤ (y7_0_1) ∧ (y7_0_1) ≤ (m5_1) ∧ (m5_1) ≤ 65536 from pz7_0) (show 0 ≤ (y7_0_4) ∧ (y7_0_4) ≤ 7 from pz7_2) (show (u1_1) ≤ (y7_0_1) from pz7_1) rfl
  as_aux_lemma =>
  intro m
  induction m using Nat.strongRecOn with
  | _ m ih20 =>
    intro ls σ F_20 A_20 x20_3 l20_0 l20_1 l20_2 l20_3 H O hS_20 hA_20   y20_1_1 ey20_1_1 y20_1_4 ey20_1_4  j20_0 j20_1 j20_2 j20_3 j20_4 hm20
    have cF_20 : SF oz_F4clsl_9 F F_20 := SF_trans (cF7) hS_20 (any_sub (by decide +kernel))
    have mF_20 := SFm_of cF_20 oz_F4cls_21
    have cA_20 : SA oz_F4clsl_12 A A_20 := SA_trans (cA7) hA_20 (any_subA (by decide +kernel))
    have mA_20 := SAm_of cA_20 oz_F4cls_28
    have r10 : (-2147483648 : Int) ≤ y20_1_1 ∧ y20_1_1 ≤ 2147483647 := rngE (show (-2147483648 : Int) ≤ F_20 1 1 ∧ F_20 1 1 ≤ 2147483647 from H.krg 1 1 (ltn len_V105_Row_oz_F4cls rfl)) (show F_20 1 1 = y20_1_1 from (ey20_1_1))
    have r11 : (-2147483648 : Int) ≤ y20_1_4 ∧ y20_1_4 ≤ 2147483647 := rngE (show (-2147483648 : Int) ≤ F_20 1 4 ∧ F_20 1 4 ≤ 2147483647 from H.krg 1 4 (ltn len_V105_Row_oz_F4cls rfl)) (show F_20 1 4 = y20_1_4 from (ey20_1_4))
    refine Ew_of (pcₚ := 21) (fun _ => x_iload_n rfl l20_3) ?_
    refine Ew_of (pcₚ := 22) (fun _ => x_iload_n rfl l20_2) ?_
    refine w_icmpge (t := 65) rfl rfl (show inr (x20_3) from j20_0) (show inr (a2) from h0) (fun b12 => ?_) (fun b12 => ?_)
    · exact w_ret rfl (k _ _ _ _ _ _ _ H O (cD5) (cN5) (cF_20) (cA_20) ((((hS_20 1 0 rfl).trans ((show F7 1 0 = F5 1 0 from (eF7 1 0).trans (hS7 0 0 rfl))))).trans (pf5_1_0)) (m5_1) ((congrArg (fun q : Nat => (q : Int)) (eN5 2)).trans em5_1) (y20_1_1) ((ey20_1_1)) (y20_1_4) ((ey20_1_4)) (show 0 ≤ (y20_1_1) ∧ (y20_1_1) ≤ (m5_1) ∧ (m5_1) ≤ 65536 from j20_2) (show 0 ≤ (y20_1_4) ∧ (y20_1_4) ≤ 7 from j20_3) (show (u1_1) ≤ (y20_1_1) from j20_4))
    · refine Ew_of (pcₚ := 26) (fun _ => x_aload_n rfl l20_1) ?_
      refine Ew_of (pcₚ := 27) (fun _ => x_aload_n rfl l20_0) ?_
      refine v_g H (o := 0) (v := .ref (D5 3)) rfl rfl rfl rfl rfl (vrf ((mF_20 0 4 rfl).trans ((pf3).trans (congrArg (fun q : Nat => (q : Int)) (mD5 3 rfl).symm)))) ?_
      refine Ew_of (pcₚ := 31) (fun _ => x_iload_n rfl l20_3) ?_
      refine v_lI H (o := 3) rfl rfl rfl rfl (n := n3) ((congrArg (fun q : Nat => (q : Int)) (mN5 3 rfl)).trans (en3)) (show 0 ≤ x20_3 ∧ x20_3 < n3 from q_3422 b12 h3 h4 j20_1 r4) (fun v13 ev13 qv13 => ?_)
      have ev13 : (A 3) (x20_3) = v13 := (congrFun (funext (mA_20 3 rfl)) (x20_3)).symm.trans ev13
      refine Ew_of (pcₚ := 33) (fun _ => x_iconst rfl) ?_
      refine w_ishlA rfl (fun z14 gz14 => ?_)
      refine Ew_of (pcₚ := 35) (fun _ => x_iload_n rfl l20_3) ?_
      refine Ew_of (pcₚ := 36) (fun _ => x_iconst rfl) ?_
      refine w_iadd rfl ?_
      refine Ew_of (pcₚ := 38) (fun _ => x_iload_n rfl l20_2) ?_
      have hc53 : ∀ (tc53_0 : Int), ∀ (ls : rO) (σ : rS) (F_c53 : hF) (A_c53 : hA) , rlook ls 0 = some (.ref (D5 0)) → rlook ls 1 = some (.ref (D5 1)) → rlook ls 2 = some (I (a2)) → rlook ls 3 = some (I (x20_3)) → HW V105_Row σ D5 N5 F_c53 A_c53 → OUT (V105_Row).length D N σE c s D5 N5 σ (c + c5) (s + s5) → SF [] F_20 F_c53 → SA [] A_20 A_c53 → (inr (tc53_0)) → Ew 105 (d + 2) 53 ls [I (tc53_0), I (z14), .ref (D5 1)] σ (c + c5) (s + s5) Q := by
       as_aux_lemma =>
        intro tc53_0 ls σ F_c53 A_c53  lc53_0 lc53_1 lc53_2 lc53_3 H O hS_c53 hA_c53     jc53_0
        have cF_c53 : SF oz_F4clsl_9 F F_c53 := SF_trans (cF_20) hS_c53 (any_sub (by decide +kernel))
        have mF_c53 := SFm_of cF_c53 oz_F4cls_21
        have cA_c53 : SA oz_F4clsl_12 A A_c53 := SA_trans (cA_20) hA_c53 (any_subA (by decide +kernel))
        have mA_c53 := SAm_of cA_c53 oz_F4cls_28
        refine w_ior rfl (fun z15 gz15 => ?_)
        refine Ew_of (pcₚ := 56) (fun _ => x_bipush (z := 8) rfl (by decide)) ?_
        refine v_inv H (o := 1) rfl rfl rfl rfl rfl rfl (by rfl) (C164 (D := puc 1025 D5) (N := puc 1025 N5) (HW_subc H oz_F4cls_27 oz_F4cls_29) (((((hS_c53 1 0 rfl).trans (hS_20 1 0 rfl)).trans ((show F7 1 0 = F5 1 0 from (eF7 1 0).trans (hS7 0 0 rfl))))).trans (pf5_1_0)) (m5_1) ((congrArg (fun q : Nat => (q : Int)) (eN5 2)).trans em5_1) (y20_1_1) (((hS_c53 1 1 rfl).trans (ey20_1_1))) (y20_1_4) (((hS_c53 1 4 rfl).trans (ey20_1_4))) (show inr (z15) from gz15) (show inr (8) from q_96) (show 0 ≤ (y20_1_1) ∧ (y20_1_1) ≤ (m5_1) ∧ (m5_1) ≤ 65536 from j20_2) (show 0 ≤ (8) ∧ (8) ≤ 31 from q_2192) (show 0 ≤ (y20_1_4) ∧ (y20_1_4) ≤ 7 from j20_3) (fun σ16 F16ₚ A16ₚ Hₚ Oₚ hS16 hA16 y16_0_1 ey16_0_1 y16_0_4 ey16_0_4 pz16_0 pz16_1 pz16_2 => ⟨rfl, ?_⟩))
        refine v_backc (c := (c + c5)) (s := (s + s5)) H oz_F4cls_27 oz_F4cls_29 Hₚ Oₚ (fun F16 A16 H Oₚ eF16 eA16 => ?_)
        have O := OUT_trans O Oₚ
        -- Row.addBits
        have cF16 : SF oz_F4clsl_9 F F16 := SF_trans (cF_c53) (SF_gluc (ι := oz_F4clsl_13) oz_F4cls_29 hS16 eF16 (by decide +kernel)) (any_sub (lₚ := [(1, 1), (1, 2), (1, 3), (1, 4)]) (by decide +kernel))
        have mF16 := SFm_of cF16 oz_F4cls_21
        have cA16 : SA oz_F4clsl_12 A A16 := SA_trans (cA_c53) (SA_gluc (ι := oz_F4clsl_13) oz_F4cls_29 hA16 eA16 (by decide +kernel)) (any_subA (lₚ := [2]) (by decide +kernel))
        have mA16 := SAm_of cA16 oz_F4cls_28
        have r17 : (-2147483648 : Int) ≤ y16_0_1 ∧ y16_0_1 ≤ 2147483647 := rngE (show (-2147483648 : Int) ≤ F16 1 1 ∧ F16 1 1 ≤ 2147483647 from H.krg 1 1 (ltn len_V105_Row_oz_F4cls rfl)) (show F16 1 1 = y16_0_1 from ((eF16 1 1).trans ey16_0_1))
        have r18 : (-2147483648 : Int) ≤ y16_0_4 ∧ y16_0_4 ≤ 2147483647 := rngE (show (-2147483648 : Int) ≤ F16 1 4 ∧ F16 1 4 ≤ 2147483647 from H.krg 1 4 (ltn len_V105_Row_oz_F4cls rfl)) (show F16 1 4 = y16_0_4 from ((eF16 1 4).trans ey16_0_4))
        refine Ew_of (pcₚ := 62) (fun _ => x_iinc (len := 3) rfl (lc53_3)) ?_
        refine Ew_of (pcₚ := 20) (fun _ => x_goto rfl rfl) ?_
        exact ih20 _ (msE hm20 q_3425 (q_34 b12)) _ _ _ _ ((x20_3 + 2)) (rk_o (lc53_0) rfl rfl) (rk_o (lc53_1) rfl rfl) (rk_o (lc53_2) rfl rfl) (rk_s) H O (SF_trans (SF_trans (hS_20) hS_c53 (any_sub (by decide +kernel))) (SF_gluc (ι := oz_F4clsl_13) oz_F4cls_29 hS16 eF16 (by decide +kernel)) (any_sub (lₚ := [(1, 1), (1, 2), (1, 3), (1, 4)]) (by decide +kernel))) (SA_trans (SA_trans (hA_20) hA_c53 (any_subA (by decide +kernel))) (SA_gluc (ι := oz_F4clsl_13) oz_F4cls_29 hA16 eA16 (by decide +kernel)) (any_subA (lₚ := [2]) (by decide +kernel)))   (y16_0_1) (((eF16 1 1).trans ey16_0_1)) (y16_0_4) (((eF16 1 4).trans ey16_0_4))  (show inr ((x20_3 + 2)) from q_3424 b12 h3 j20_1) (show 0 ≤ ((x20_3 + 2)) ∧ ((x20_3 + 2)) ≤ (a2) + 1 from q_3423 b12 j20_1) (show 0 ≤ (y16_0_1) ∧ (y16_0_1) ≤ (m5_1) ∧ (m5_1) ≤ 65536 from pz16_0) (show 0 ≤ (y16_0_4) ∧ (y16_0_4) ≤ 7 from pz16_2) (show (u1_1) ≤ (y16_0_1) from q_1975 j20_4 pz16_1) rfl
      refine w_icmpge (t := 52) rfl rfl (show inr ((x20_3 + 1)) from q_3426 b12 h3 j20_1) (show inr (a2) from h0) (fun b19 => ?_) (fun b19 => ?_)
      · refine Ew_of (pcₚ := 53) (fun _ => x_iconst rfl) ?_
        exact hc53 (0) _ _ _ _  (l20_0) (l20_1) (l20_2) (l20_3) H O (SF_refl) (SA_refl)     (show inr (0) from q_20)
      · refine Ew_of (pcₚ := 42) (fun _ => x_aload_n rfl l20_0) ?_
        refine v_g H (o := 0) (v := .ref (D5 3)) rfl rfl rfl rfl rfl (vrf ((mF_20 0 4 rfl).trans ((pf3).trans (congrArg (fun q : Nat => (q : Int)) (mD5 3 rfl).symm)))) ?_
        refine Ew_of (pcₚ := 46) (fun _ => x_iload_n rfl l20_3) ?_
        refine Ew_of (pcₚ := 47) (fun _ => x_iconst rfl) ?_
        refine w_iadd rfl ?_
        refine v_lI H (o := 3) rfl rfl rfl rfl (n := n3) ((congrArg (fun q : Nat => (q : Int)) (mN5 3 rfl)).trans (en3)) (show 0 ≤ (x20_3 + 1) ∧ (x20_3 + 1) < n3 from q_3427 b19 h3 h4 j20_1 r4) (fun v20 ev20 qv20 => ?_)
        have ev20 : (A 3) ((x20_3 + 1)) = v20 := (congrFun (funext (mA_20 3 rfl)) ((x20_3 + 1))).symm.trans ev20
        refine Ew_of (pcₚ := 53) (fun _ => x_goto rfl rfl) ?_
        exact hc53 (v20) _ _ _ _  (l20_0) (l20_1) (l20_2) (l20_3) H O (SF_refl) (SA_refl)     (show inr (v20) from qv20)
