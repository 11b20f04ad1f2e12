abbrev V107_Br : vV := [(0, 3, [(4, 0), (4, 0), (4, 0), (0, 0), (4, 0), (4, 0), (4, 0), (4, 0), (4, 0), (4, 0), (4, 0), (4, 0), (4, 0), (0, 0), (0, 0), (0, 0), (0, 0)]), (1, 0, []), (1, 1, []), (1, 1, []), (1, 1, []), (1, 1, []), (0, 8, [(0, 0), (0, 0), (4, 0), (4, 0), (4, 0), (4, 0), (4, 0), (4, 0), (4, 0), (4, 0), (4, 0), (0, 0), (0, 0)]), (1, 1, []), (1, 1, []), (1, 1, []), (1, 1, []), (1, 1, []), (1, 1, []), (1, 1, []), (1, 1, []), (0, 2, [(4, 0), (0, 0), (0, 0)])]
theorem len_V107_Br_oz_F4cls : (V107_Br).length = 16 := by decide +kernel
theorem oz_F4cls_1 : vsub V107_Br V109 [0, 2, 3, 4, 5] = true := by decide +kernel
theorem oz_F4cls_2 : vsub V107_Br V108_Br [0, 1, 2, 6, 7, 8, 9, 10, 11, 12, 13, 14, 15] = true := by decide +kernel
def oz_F4clsl_0 : List (Nat × Nat) := [(0, 3), (6, 0), (6, 10), (6, 11), (6, 12), (15, 0), (15, 1), (15, 2)]
theorem oz_F4cls_3 : (oz_F4clsl_0).all (fun p => !tbz 21852239852211945619671180608552164140240186998654798056014098717377602171738359340887143263785430912514727292224822120805173615936380660566982664 (Nat.add (Nat.mul 32 p.1) p.2)) = true := by decide +kernel
def oz_F4clsl_1 : List Nat := [2, 3, 4, 5, 7, 8, 9, 10, 11, 12, 13, 14]
theorem oz_F4cls_4 : (oz_F4clsl_1).all (fun p => !tbz 32700 p) = true := by decide +kernel
def oz_F4clsl_2 : List Nat := [0, 2, 3, 4, 5]
theorem oz_F4cls_5 : okc oz_F4clsl_2 344135042048 = true := by decide +kernel
def oz_F4clsl_3 : List Nat := [0, 1, 2, 6, 7, 8, 9, 10, 11, 12, 13, 14, 15]
theorem oz_F4cls_6 : okc oz_F4clsl_3 4876667981364767315695969161970176 = true := by decide +kernel
set_option maxHeartbeats 16000000 in
theorem C107_Br {σE : rS} {D N : Nat → Nat} {F : hF} {A : hA} {d c s : Nat} {Q : wQ} (H : HW V107_Br σE D N F A) {a2 a3 : Int} (pf2 : F 0 4 = (D 2 : Int)) (pf3 : F 0 0 = (D 3 : Int)) (pf4 : F 0 1 = (D 4 : Int)) (pf5 : F 0 2 = (D 5 : Int)) (pf6 : F 0 6 = (D 6 : Int)) (pf7 : F 6 2 = (D 7 : Int)) (pf8 : F 6 3 = (D 8 : Int)) (pf9 : F 6 4 = (D 9 : Int)) (pf10 : F 6 5 = (D 10 : Int)) (pf11 : F 6 6 = (D 11 : Int)) (pf12 : F 6 8 = (D 12 : Int)) (pf13 : F 6 7 = (D 13 : Int)) (pf14 : F 6 9 = (D 14 : Int)) (pf15 : F 0 9 = (D 15 : Int)) (n1 : Int) (en1 : (N 1 : Int) = n1) (n2 : Int) (en2 : (N 2 : Int) = n2) (n3 : Int) (en3 : (N 3 : Int) = n3) (n4 : Int) (en4 : (N 4 : Int) = n4) (n5 : Int) (en5 : (N 5 : Int) = n5) (n7 : Int) (en7 : (N 7 : Int) = n7) (n8 : Int) (en8 : (N 8 : Int) = n8) (n9 : Int) (en9 : (N 9 : Int) = n9) (n10 : Int) (en10 : (N 10 : Int) = n10) (n11 : Int) (en11 : (N 11 : Int) = n11) (n12 : Int) (en12 : (N 12 : Int) = n12) (n13 : Int) (en13 : (N 13 : Int) = n13) (n14 : Int) (en14 : (N 14 : Int) = n14) (u0_3 : Int) (eu0_3 : F 0 3 = u0_3) (u6_1 : Int) (eu6_1 : F 6 1 = u6_1) (w1 : Int → Int) (ew1 : A 1 = w1) (w3 : Int → Int) (ew3 : A 3 = w3) (w4 : Int → Int) (ew4 : A 4 = w4) (w5 : Int → Int) (ew5 : A 5 = w5) (h0 : inr (a2)) (h1 : inr (a3)) (h2 : 0 ≤ (a2) ∧ (a2) ≤ 65536 ∧ 0 ≤ (a3) ∧ (a3) ≤ (n1) ∧ (n1) ≤ 65536) (h3 : (n2) = 256 ∧ (n3) = 256 ∧ (n4) = 256 ∧ (n5) = 2048) (h4 : (n7) = (u6_1) ∧ (n8) = (u6_1) ∧ (n9) = (u6_1) ∧ (n10) = (u6_1) ∧ (n11) = (u6_1) ∧ (n12) = (n13) ∧ (n14) = (n13) ∧ 1 ≤ (u6_1) ∧ (u6_1) ≤ 64 ∧ (u6_1) = 12 ∧ (n13) = 64) (h5 : CEL ((w5))) (k : ∀ (z : Int) (σ : rS) (Fₚ : hF) (Aₚ : hA), HW V107_Br σ D N Fₚ Aₚ → OUT (V107_Br).length D N σE c s D N σ c s → SF [(0, 3), (6, 0), (6, 10), (6, 11), (6, 12), (15, 0), (15, 1), (15, 2)] F Fₚ → SA [2, 3, 4, 5, 7, 8, 9, 10, 11, 12, 13, 14] A Aₚ → ∀ y0_3 : Int, Fₚ 0 3 = y0_3 → ∀ v3 : Int → Int, Aₚ 3 = v3 → ∀ v4 : Int → Int, Aₚ 4 = v4 → ∀ v5 : Int → Int, Aₚ 5 = v5 → (inr (z)) → ((z) = -1 ∨ (a2) < (z) ∧ (z) ≤ (a3)) → (CEL ((v5))) → ((z) = -1 ∨ 0 ≤ (y0_3) ∧ (y0_3) ≤ 11) → ((z) = -1 ∨ LNG ((v3)) ((y0_3))) → (DSA (ub8 ((w1))) ((a2)) ((a3)) ((z)) ((y0_3)) ((v3))) → (IMP ((z) ≠ -1) (CI ((v3)) ((y0_3)))) → (IMP ((z) ≠ -1) (CDX ((v3)) ((y0_3)) ((v5)) ((v4)))) → Q (some (I z)) σ c s) : Ew 107 (d + 4) 0 (rargs 0 [.ref (D 0), .ref (D 1), I a2, I a3]) [] σE c s Q := by
  have O := OUT_refl (n := (V107_Br).length) (D := D) (N := N) (σ := σE) (c := c) (s := s)
  have HE := H
  have r1 : (-2147483648 : Int) ≤ u0_3 ∧ u0_3 ≤ 2147483647 := rngE (show (-2147483648 : Int) ≤ F 0 3 ∧ F 0 3 ≤ 2147483647 from H.krg 0 3 (ltn len_V107_Br_oz_F4cls rfl)) (show F 0 3 = u0_3 from (eu0_3))
  have r2 : (-2147483648 : Int) ≤ u6_1 ∧ u6_1 ≤ 2147483647 := rngE (show (-2147483648 : Int) ≤ F 6 1 ∧ F 6 1 ≤ 2147483647 from H.krg 6 1 (ltn len_V107_Br_oz_F4cls rfl)) (show F 6 1 = u6_1 from (eu6_1))
  have r3 : (0 : Int) ≤ n1 ∧ n1 ≤ 1000000 := nleE (H.nle 1 (ltn len_V107_Br_oz_F4cls rfl)) (show (N 1 : Int) = n1 from en1)
  have r4 : (0 : Int) ≤ n2 ∧ n2 ≤ 1000000 := nleE (H.nle 2 (ltn len_V107_Br_oz_F4cls rfl)) (show (N 2 : Int) = n2 from en2)
  have r5 : (0 : Int) ≤ n3 ∧ n3 ≤ 1000000 := nleE (H.nle 3 (ltn len_V107_Br_oz_F4cls rfl)) (show (N 3 : Int) = n3 from en3)
  have r6 : (0 : Int) ≤ n4 ∧ n4 ≤ 1000000 := nleE (H.nle 4 (ltn len_V107_Br_oz_F4cls rfl)) (show (N 4 : Int) = n4 from en4)
  have r7 : (0 : Int) ≤ n5 ∧ n5 ≤ 1000000 := nleE (H.nle 5 (ltn len_V107_Br_oz_F4cls rfl)) (show (N 5 : Int) = n5 from en5)
  have r8 : (0 : Int) ≤ n7 ∧ n7 ≤ 1000000 := nleE (H.nle 7 (ltn len_V107_Br_oz_F4cls rfl)) (show (N 7 : Int) = n7 from en7)
  have r9 : (0 : Int) ≤ n8 ∧ n8 ≤ 1000000 := nleE (H.nle 8 (ltn len_V107_Br_oz_F4cls rfl)) (show (N 8 : Int) = n8 from en8)
  have r10 : (0 : Int) ≤ n9 ∧ n9 ≤ 1000000 := nleE (H.nle 9 (ltn len_V107_Br_oz_F4cls rfl)) (show (N 9 : Int) = n9 from en9)
  have r11 : (0 : Int) ≤ n10 ∧ n10 ≤ 1000000 := nleE (H.nle 10 (ltn len_V107_Br_oz_F4cls rfl)) (show (N 10 : Int) = n10 from en10)
  have r12 : (0 : Int) ≤ n11 ∧ n11 ≤ 1000000 := nleE (H.nle 11 (ltn len_V107_Br_oz_F4cls rfl)) (show (N 11 : Int) = n11 from en11)
  have r13 : (0 : Int) ≤ n12 ∧ n12 ≤ 1000000 := nleE (H.nle 12 (ltn len_V107_Br_oz_F4cls rfl)) (show (N 12 : Int) = n12 from en12)
  have r14 : (0 : Int) ≤ n13 ∧ n13 ≤ 1000000 := nleE (H.nle 13 (ltn len_V107_Br_oz_F4cls rfl)) (show (N 13 : Int) = n13 from en13)
  have r15 : (0 : Int) ≤ n14 ∧ n14 ≤ 1000000 := nleE (H.nle 14 (ltn len_V107_Br_oz_F4cls rfl)) (show (N 14 : Int) = n14 from en14)
  refine Ew_of (pcₚ := 1) (fun _ => x_iload_n rfl rfl) ?_
  refine Ew_of (pcₚ := 2) (fun _ => x_iload_n rfl rfl) ?_
  refine w_icmplt (t := 7) rfl rfl (show inr (a2) from h0) (show inr (a3) from h1) (fun b16 => ?_) (fun b16 => ?_)
  · refine Ew_of (pcₚ := 8) (fun _ => x_aload_n rfl rfl) ?_
    refine Ew_of (pcₚ := 9) (fun _ => x_iload_n rfl rfl) ?_
    refine v_lB H (o := 1) rfl rfl rfl rfl (n := n1) (en1) (show 0 ≤ a2 ∧ a2 < n1 from q_3717 b16 h2) (fun v17 ev17 qv17 => ?_)
    have ev17 : (w1) (a2) = v17 := (congrFun (ew1) (a2)).symm.trans ev17
    have hvA := ev17
    refine Ew_of (pcₚ := 13) (fun _ => x_sipush (z := 255) rfl (by decide)) ?_
    refine v_and255 rfl ?_
    have hwA : ub8 ((w1)) ((a2)) = ((v17 % 256)) := by show u8 _ = _; rw [hvA]; rfl
    refine Ew_of (pcₚ := 16) (fun _ => x_istore rfl) ?_
    refine Ew_of (pcₚ := 18) (fun _ => x_iload rfl rk_s) ?_
    refine Ew_of (pcₚ := 20) (fun _ => x_bipush (z := 127) rfl (by decide)) ?_
    refine w_isub rfl ?_
    refine Ew_of (pcₚ := 23) (fun _ => x_istore rfl) ?_
    refine Ew_of (pcₚ := 24) (fun _ => x_iload_n rfl (rk_o (rk_o (rfl) rfl rfl) rfl rfl)) ?_
    refine Ew_of (pcₚ := 25) (fun _ => x_iconst rfl) ?_
    refine w_iadd rfl ?_
    refine Ew_of (pcₚ := 28) (fun _ => x_iload rfl rk_s) ?_
    have hc42 : ∀ (tc42_0 : Int), ∀ (ls : rO) (σ : rS) (F_c42 : hF) (A_c42 : hA) , rlook ls 0 = some (.ref (D 0)) → rlook ls 1 = some (.ref (D 1)) → rlook ls 2 = some (I (a2)) → rlook ls 3 = some (I (a3)) → rlook ls 5 = some (I (((v17 % 256) - 127))) → HW V107_Br σ D N F_c42 A_c42 → OUT (V107_Br).length D N σE c s D N σ c s → SF [] F F_c42 → SA [] A A_c42 → (inr (tc42_0)) → (((((v17 % 256) - 127)) ≤ (0) ∧ (tc42_0) = ((v17 % 256))) ∨ ((((v17 % 256) - 127)) > (0) ∧ (tc42_0) = (((((v17 % 256) - 127) + 1) / 2)))) → Ew 107 (d + 4) 42 ls [I (tc42_0), I ((a2 + 1))] σ c s Q := by
     as_aux_lemma =>
      intro tc42_0 ls σ F_c42 A_c42  lc42_0 lc42_1 lc42_2 lc42_3 lc42_5 H O hS_c42 hA_c42     jc42_0 jc42_1
      have cF_c42 : SF oz_F4clsl_0 F F_c42 := SF_trans (SF_refl) hS_c42 (any_sub (by decide +kernel))
      have mF_c42 := SFm_of cF_c42 oz_F4cls_3
      have cA_c42 : SA oz_F4clsl_1 A A_c42 := SA_trans (SA_refl) hA_c42 (any_subA (by decide +kernel))
      have mA_c42 := SAm_of cA_c42 oz_F4cls_4
      refine w_iadd rfl ?_
      refine Ew_of (pcₚ := 45) (fun _ => x_istore rfl) ?_
      have hen : dEn (ub8 ((w1))) ((a2)) = (((a2 + 1) + tc42_0)) := by rcases (show 127 < (ub8 ((w1))) ((a2)) ∨ (ub8 ((w1))) ((a2)) ≤ 127 from q_1448) with z | z; (rw [dEn_1 z]; omega); (rw [dEn_0 z]; omega)
      refine Ew_of (pcₚ := 47) (fun _ => x_iload rfl rk_s) ?_
      refine Ew_of (pcₚ := 48) (fun _ => x_iload_n rfl (rk_o (lc42_3) rfl rfl)) ?_
      refine w_icmple (t := 53) rfl rfl (show inr (((a2 + 1) + tc42_0)) from q_3718 h2 jc42_0 jc42_1) (show inr (a3) from h1) (fun b18 => ?_) (fun b18 => ?_)
      · refine Ew_of (pcₚ := 55) (fun _ => x_iload rfl (rk_o (lc42_5) rfl rfl)) ?_
        refine w_ifgt (t := 91) rfl rfl (show inr (((v17 % 256) - 127)) from q_3719) (fun b19 => ?_) (fun b19 => ?_)
        · refine Ew_of (pcₚ := 92) (fun _ => x_iconst rfl) ?_
          refine Ew_of (pcₚ := 94) (fun _ => x_istore rfl) ?_
          have hw0 : WTS ((A 2)) 0 := fun i a b => by omega
          have : ∀ i, 0 ≤ i → i < (0 : Int) → ((A 2)) i = dDW (ub8 ((w1))) ((a2)) i := fun i a b => absurd b (by omega)
          suffices hl94 : ∀ (m : Nat), ∀ (ls : rO) (σ : rS) (F_94 : hF) (A_94 : hA) (x94_7 : Int), rlook ls 0 = some (.ref (D 0)) → rlook ls 1 = some (.ref (D 1)) → rlook ls 2 = some (I (a2)) → rlook ls 5 = some (I (((v17 % 256) - 127))) → rlook ls 6 = some (I (((a2 + 1) + tc42_0))) → rlook ls 7 = some (I (x94_7)) → HW V107_Br σ D N F_94 A_94 → OUT (V107_Br).length D N σE c s D N σ c s → SF [] F_c42 F_94 → SA [2] A_c42 A_94 → ∀ w94_2 : Int → Int, A_94 2 = w94_2 → (inr (x94_7)) → ((0) ≤ (x94_7)) → ((x94_7) ≤ (0) ∨ (x94_7) ≤ ((((v17 % 256) - 127)))) → (WTS ((w94_2)) (x94_7)) → (∀ i, 0 ≤ i → i < (x94_7) → ((w94_2)) i = dDW (ub8 ((w1))) ((a2)) i) → (((((v17 % 256) - 127))) - (x94_7)).toNat = m → Ew 107 (d + 4) 94 ls [] σ c s Q from
            hl94 _ _ _ _ _ (0) (rk_o (rk_o (lc42_0) rfl rfl) rfl rfl) (rk_o (rk_o (lc42_1) rfl rfl) rfl rfl) (rk_o (rk_o (lc42_2) rfl rfl) rfl rfl) (rk_o (rk_o (lc42_5) rfl rfl) rfl rfl) (rk_o (rk_s) rfl rfl) (rk_s) H O (SF_refl) (SA_refl)    (A 2) (funext (hA_c42 2 rfl)) (show inr (0) from q_2) (show (0) ≤ (0) from q_1) (show (0) ≤ (0) ∨ (0) ≤ ((((v17 % 256) - 127))) from q_3720) (hw0) (show ∀ i, 0 ≤ i → i < (0) → ((A 2)) i = dDW (ub8 ((w1))) ((a2)) i by assumption) rfl
          as_aux_lemma =>
          intro m
          induction m using Nat.strongRecOn with
          | _ m ih94 =>
            intro ls σ F_94 A_94 x94_7 l94_0 l94_1 l94_2 l94_5 l94_6 l94_7 H O hS_94 hA_94    w94_2 ew94_2 j94_0 j94_1 j94_2 j94_3 j94_4 hm94
            have cF_94 : SF oz_F4clsl_0 F F_94 := SF_trans (cF_c42) hS_94 (any_sub (by decide +kernel))
            have mF_94 := SFm_of cF_94 oz_F4cls_3
            have cA_94 : SA oz_F4clsl_1 A A_94 := SA_trans (cA_c42) hA_94 (any_subA (by decide +kernel))
            have mA_94 := SAm_of cA_94 oz_F4cls_4
            have j94_w : ∀ i, 0 ≤ i → i < (x94_7) → ((w94_2)) i = dDW (ub8 ((w1))) ((a2)) i := by assumption
            refine Ew_of (pcₚ := 96) (fun _ => x_iload rfl l94_7) ?_
            refine Ew_of (pcₚ := 98) (fun _ => x_iload rfl l94_5) ?_
            refine w_icmpge (t := 149) rfl rfl (show inr (x94_7) from j94_0) (show inr (((v17 % 256) - 127)) from q_3721 b19) (fun b20 => ?_) (fun b20 => ?_)
            · have hl7 : (x94_7) = (((v17 % 256) - 127)) := q_3722 b19 b20 j94_2
              have hwt : WTS ((w94_2)) ((((v17 % 256) - 127))) := by rw [← hl7]; assumption
              have hDW : DWA (ub8 ((w1))) ((a2)) ((a3)) ((((v17 % 256) - 127))) ((w94_2)) := DWA_d (by omega) (by omega) (by omega) (by omega) (fun i a b => j94_w i a (by omega))
              refine Ew_of (pcₚ := 150) (fun _ => x_aload_n rfl l94_0) ?_
              refine Ew_of (pcₚ := 152) (fun _ => x_iload rfl l94_5) ?_
              refine v_inv H (o := 0) rfl rfl rfl rfl rfl rfl (by rfl) (C109 (D := puc 344135042048 D) (N := puc 344135042048 N) (HW_subc H oz_F4cls_1 oz_F4cls_5) ((mF_94 0 4 rfl).trans (pf2)) ((mF_94 0 0 rfl).trans (pf3)) ((mF_94 0 1 rfl).trans (pf4)) ((mF_94 0 2 rfl).trans (pf5)) (n2) (en2) (n3) (en3) (n4) (en4) (n5) (en5) (u0_3) ((((hS_94 0 3 rfl).trans (hS_c42 0 3 rfl)).trans (eu0_3))) (w94_2) (ew94_2) (w3) ((funext (hA_94 3 rfl)).trans ((funext (hA_c42 3 rfl)).trans (ew3))) (w4) ((funext (hA_94 4 rfl)).trans ((funext (hA_c42 4 rfl)).trans (ew4))) (w5) ((funext (hA_94 5 rfl)).trans ((funext (hA_c42 5 rfl)).trans (ew5))) (show inr (((v17 % 256) - 127)) from q_3721 b19) (show (n2) = 256 ∧ (n3) = 256 ∧ (n4) = 256 ∧ (n5) = 2048 from h3) (show 1 ≤ (((v17 % 256) - 127)) ∧ (((v17 % 256) - 127)) ≤ 255 from q_3723 b19) (hwt) (h5) (fun z21 σ21 F21ₚ A21ₚ Hₚ Oₚ hS21 hA21 y21_0_3 ey21_0_3 w21_2 ew21_2 w21_3 ew21_3 w21_4 ew21_4 pz21_0 pz21_1 pz21_2 pz21_3 pz21_4 pz21_5 pz21_6 => ⟨rretB rfl pz21_0, ?_⟩))
              refine v_backc (c := c) (s := s) H oz_F4cls_1 oz_F4cls_5 Hₚ Oₚ (fun F21 A21 H Oₚ eF21 eA21 => ?_)
              have O := OUT_trans O Oₚ
              -- Codes.complete
              have cF21 : SF oz_F4clsl_0 F F21 := SF_trans (cF_94) (SF_gluc (ι := oz_F4clsl_2) oz_F4cls_5 hS21 eF21 (by decide +kernel)) (any_sub (lₚ := [(0, 3)]) (by decide +kernel))
              have mF21 := SFm_of cF21 oz_F4cls_3
              have cA21 : SA oz_F4clsl_1 A A21 := SA_trans (cA_94) (SA_gluc (ι := oz_F4clsl_2) oz_F4cls_5 hA21 eA21 (by decide +kernel)) (any_subA (lₚ := [2, 3, 4, 5]) (by decide +kernel))
              have mA21 := SAm_of cA21 oz_F4cls_4
              have r22 : (-2147483648 : Int) ≤ y21_0_3 ∧ y21_0_3 ≤ 2147483647 := rngE (show (-2147483648 : Int) ≤ F21 0 3 ∧ F21 0 3 ≤ 2147483647 from H.krg 0 3 (ltn len_V107_Br_oz_F4cls rfl)) (show F21 0 3 = y21_0_3 from ((eF21 0 3).trans ey21_0_3))
              refine w_ifeq (t := 163) rfl rfl (show inr (z21) from q_138 pz21_0) (fun b23 => ?_) (fun b23 => ?_)
              · have hno : (-1 : Int) = -1 ∨ LNG ((w21_2)) ((y21_0_3)) := .inl rfl
                refine Ew_of (pcₚ := 164) (fun _ => x_iconst rfl) ?_
                have : DSA (ub8 ((w1))) ((a2)) ((a3)) (((-1))) ((y21_0_3)) ((w21_2)) := by exact (pz21_4 _ _ _ hDW).1 (by omega) _ _
                have : IMP (((-1)) ≠ -1) (CI ((w21_2)) ((y21_0_3))) := by exact fun z => absurd rfl z
                have : IMP (((-1)) ≠ -1) (CDX ((w21_2)) ((y21_0_3)) ((w21_4)) ((w21_3))) := by exact fun z => absurd rfl z
                exact w_ireturn rfl (k ((-1)) _ _ _ H O (cF21) (cA21) (y21_0_3) (((eF21 0 3).trans ey21_0_3)) (w21_2) ((eA21 3).trans ew21_2) (w21_3) ((eA21 4).trans ew21_3) (w21_4) ((eA21 5).trans ew21_4) (show inr ((-1)) from q_63) (show ((-1)) = -1 ∨ a2 < ((-1)) ∧ ((-1)) ≤ a3 by first | exact q_1454 | omega) (pz21_3) (show ((-1)) = -1 ∨ 0 ≤ (y21_0_3) ∧ (y21_0_3) ≤ 11 by first | exact q_3724 | omega) (show ((-1)) = -1 ∨ LNG ((w21_2)) ((y21_0_3)) by assumption) (show DSA (ub8 ((w1))) (a2) (a3) (((-1))) ((y21_0_3)) ((w21_2)) by assumption) (show IMP (((-1)) ≠ -1) (CI ((w21_2)) ((y21_0_3))) by assumption) (show IMP (((-1)) ≠ -1) (CDX ((w21_2)) ((y21_0_3)) ((w21_4)) ((w21_3))) by assumption))
              · have hyc : ((((a2 + 1) + tc42_0)) : Int) = -1 ∨ LNG ((w21_2)) ((y21_0_3)) := .inr (Or.resolve_left pz21_2 (by omega))
                refine Ew_of (pcₚ := 160) (fun _ => x_iload rfl l94_6) ?_
                refine Ew_of (pcₚ := 164) (fun _ => x_goto rfl rfl) ?_
                have : DSA (ub8 ((w1))) ((a2)) ((a3)) ((((a2 + 1) + tc42_0))) ((y21_0_3)) ((w21_2)) := by (have h := (pz21_4 _ _ _ hDW).2 (by omega); rw [hen] at h; exact h)
                have : IMP ((((a2 + 1) + tc42_0)) ≠ -1) (CI ((w21_2)) ((y21_0_3))) := by exact fun _ => pz21_5 (by omega)
                have : IMP ((((a2 + 1) + tc42_0)) ≠ -1) (CDX ((w21_2)) ((y21_0_3)) ((w21_4)) ((w21_3))) := by exact fun _ => pz21_6 (by omega)
                exact w_ireturn rfl (k (((a2 + 1) + tc42_0)) _ _ _ H O (cF21) (cA21) (y21_0_3) (((eF21 0 3).trans ey21_0_3)) (w21_2) ((eA21 3).trans ew21_2) (w21_3) ((eA21 4).trans ew21_3) (w21_4) ((eA21 5).trans ew21_4) (show inr (((a2 + 1) + tc42_0)) from q_3725 b18 h2 jc42_0) (show (((a2 + 1) + tc42_0)) = -1 ∨ a2 < (((a2 + 1) + tc42_0)) ∧ (((a2 + 1) + tc42_0)) ≤ a3 by omega) (pz21_3) (show (((a2 + 1) + tc42_0)) = -1 ∨ 0 ≤ (y21_0_3) ∧ (y21_0_3) ≤ 11 by omega) (hyc) (show DSA (ub8 ((w1))) (a2) (a3) ((((a2 + 1) + tc42_0))) ((y21_0_3)) ((w21_2)) by assumption) (show IMP ((((a2 + 1) + tc42_0)) ≠ -1) (CI ((w21_2)) ((y21_0_3))) by assumption) (show IMP ((((a2 + 1) + tc42_0)) ≠ -1) (CDX ((w21_2)) ((y21_0_3)) ((w21_4)) ((w21_3))) by assumption))
            · refine Ew_of (pcₚ := 102) (fun _ => x_aload_n rfl l94_1) ?_
              refine Ew_of (pcₚ := 103) (fun _ => x_iload_n rfl l94_2) ?_
              refine Ew_of (pcₚ := 104) (fun _ => x_iconst rfl) ?_
              refine w_iadd rfl ?_
              refine Ew_of (pcₚ := 107) (fun _ => x_iload rfl l94_7) ?_
              refine Ew_of (pcₚ := 108) (fun _ => x_iconst rfl) ?_
              refine w_idiv rfl (show inr (x94_7) ∧ 0 ≤ x94_7 from q_1235 j94_0 j94_1) (show inr (2) ∧ 0 < 2 from q_1234) ?_
              refine w_iadd rfl ?_
              refine v_lB H (o := 1) rfl rfl rfl rfl (n := n1) (en1) (show 0 ≤ ((a2 + 1) + (x94_7 / 2)) ∧ ((a2 + 1) + (x94_7 / 2)) < n1 by omega) (fun v24 ev24 qv24 => ?_)
              have ev24 : (w1) (((a2 + 1) + (x94_7 / 2))) = v24 := (congrFun ((funext (mA_94 1 rfl)).trans (ew1)) (((a2 + 1) + (x94_7 / 2)))).symm.trans ev24
              have hvB := ev24
              refine Ew_of (pcₚ := 114) (fun _ => x_sipush (z := 255) rfl (by decide)) ?_
              refine v_and255 rfl ?_
              have hwB : ub8 ((w1)) ((a2) + 1 + (x94_7) / 2) = ((v24 % 256)) := by show u8 _ = _; rw [hvB]; rfl
              refine Ew_of (pcₚ := 117) (fun _ => x_istore rfl) ?_
              refine Ew_of (pcₚ := 118) (fun _ => x_aload_n rfl (rk_o (l94_0) rfl rfl)) ?_
              refine v_g H (o := 0) (v := .ref (D 2)) rfl rfl rfl rfl rfl (vrf ((mF_94 0 4 rfl).trans (pf2))) ?_
              refine Ew_of (pcₚ := 123) (fun _ => x_iload rfl (rk_o (l94_7) rfl rfl)) ?_
              refine Ew_of (pcₚ := 125) (fun _ => x_iload rfl (rk_o (l94_7) rfl rfl)) ?_
              refine Ew_of (pcₚ := 126) (fun _ => x_iconst rfl) ?_
              refine w_irem rfl (show inr (x94_7) ∧ 0 ≤ x94_7 from q_1235 j94_0 j94_1) (show inr (2) ∧ 0 < 2 from q_1234) ?_
              refine w_ifne (t := 137) rfl rfl (show inr ((x94_7 % 2)) from q_1474) (fun b25 => ?_) (fun b25 => ?_)
              · refine Ew_of (pcₚ := 139) (fun _ => x_iload rfl rk_s) ?_
                refine Ew_of (pcₚ := 141) (fun _ => x_bipush (z := 15) rfl (by decide)) ?_
                refine w_iandG rfl ?_
                have g26 : inr (andI ((v24 % 256)) (15)) := toI_inr _
                have hr15 : 0 ≤ ((andI ((v24 % 256)) (15))) ∧ ((andI ((v24 % 256)) (15))) ≤ 15 := by (rw [andI_15]; omega)
                refine v_sI H (o := 2) (z := (andI ((v24 % 256)) (15))) rfl rfl rfl rfl (n := n2) (en2) (show 0 ≤ x94_7 ∧ x94_7 < n2 from q_3726 b20 h3 j94_1 r4) (show inr ((andI ((v24 % 256)) (15))) from g26) (fun σ H Oₚ => ?_)
                have O := OUT_trans O Oₚ
                have cAu27 : SA oz_F4clsl_1 A (updA A_94 2 (x94_7) ((andI ((v24 % 256)) (15)))) := SA_upd (cA_94) rfl
                have mAu27 := SAm_of cAu27 oz_F4cls_4
                refine Ew_of (pcₚ := 146) (fun _ => x_iinc (len := 3) rfl (rk_o (l94_7) rfl rfl)) ?_
                refine Ew_of (pcₚ := 94) (fun _ => x_goto rfl rfl) ?_
                have hw1 : WTS ((upd1 (w94_2) (x94_7) ((andI ((v24 % 256)) (15))))) ((x94_7 + 1)) := WTS_s (by assumption) rfl (by omega)
                have : ∀ i, 0 ≤ i → i < ((x94_7 + 1)) → ((upd1 (w94_2) (x94_7) ((andI ((v24 % 256)) (15))))) i = dDW (ub8 ((w1))) ((a2)) i := by exact pt_upd j94_w (by rw [dDW_1 (by omega) (by omega) (by omega) rfl hwB]; exact andI_15 _)
                exact ih94 _ (msE hm94 q_3729 (q_3730 b20)) _ _ _ _ ((x94_7 + 1)) (rk_o (rk_o (l94_0) rfl rfl) rfl rfl) (rk_o (rk_o (l94_1) rfl rfl) rfl rfl) (rk_o (rk_o (l94_2) rfl rfl) rfl rfl) (rk_o (rk_o (l94_5) rfl rfl) rfl rfl) (rk_o (rk_o (l94_6) rfl rfl) rfl rfl) (rk_s) H O (hS_94) (SA_upd (hA_94) rfl)    (upd1 (w94_2) (x94_7) ((andI ((v24 % 256)) (15)))) (congrArg (fun q => upd1 q (x94_7) ((andI ((v24 % 256)) (15)))) (ew94_2)) (show inr ((x94_7 + 1)) from q_3728 b20 j94_1) (show (0) ≤ ((x94_7 + 1)) from q_14 j94_1) (show ((x94_7 + 1)) ≤ (0) ∨ ((x94_7 + 1)) ≤ ((((v17 % 256) - 127))) from q_3727 b20) (hw1) (show ∀ i, 0 ≤ i → i < ((x94_7 + 1)) → ((upd1 (w94_2) (x94_7) ((andI ((v24 % 256)) (15))))) i = dDW (ub8 ((w1))) ((a2)) i by assumption) rfl
              · refine Ew_of (pcₚ := 132) (fun _ => x_iload rfl rk_s) ?_
                refine Ew_of (pcₚ := 133) (fun _ => x_iconst rfl) ?_
                refine w_ishrG rfl ?_
                have g28 : inr (srI ((v24 % 256)) (4)) := toI_inr _
                refine Ew_of (pcₚ := 142) (fun _ => x_goto rfl rfl) ?_
                have hr15 : 0 ≤ ((srI ((v24 % 256)) (4))) ∧ ((srI ((v24 % 256)) (4))) ≤ 15 := by (rw [srI_d (by omega) (by omega), show p2 4 = 16 by decide]; omega)
                refine v_sI H (o := 2) (z := (srI ((v24 % 256)) (4))) rfl rfl rfl rfl (n := n2) (en2) (show 0 ≤ x94_7 ∧ x94_7 < n2 from q_3726 b20 h3 j94_1 r4) (show inr ((srI ((v24 % 256)) (4))) from g28) (fun σ H Oₚ => ?_)
                have O := OUT_trans O Oₚ
                have cAu29 : SA oz_F4clsl_1 A (updA A_94 2 (x94_7) ((srI ((v24 % 256)) (4)))) := SA_upd (cA_94) rfl
                have mAu29 := SAm_of cAu29 oz_F4cls_4
                refine Ew_of (pcₚ := 146) (fun _ => x_iinc (len := 3) rfl (rk_o (l94_7) rfl rfl)) ?_
                refine Ew_of (pcₚ := 94) (fun _ => x_goto rfl rfl) ?_
                have hw1 : WTS ((upd1 (w94_2) (x94_7) ((srI ((v24 % 256)) (4))))) ((x94_7 + 1)) := WTS_s (by assumption) rfl (by omega)
                have : ∀ i, 0 ≤ i → i < ((x94_7 + 1)) → ((upd1 (w94_2) (x94_7) ((srI ((v24 % 256)) (4))))) i = dDW (ub8 ((w1))) ((a2)) i := by exact pt_upd j94_w (by rw [dDW_0 (by omega) (by omega) (by omega) rfl hwB, srI_d (by omega) (by omega), show p2 4 = 16 by decide])
                exact ih94 _ (msE hm94 q_3729 (q_3730 b20)) _ _ _ _ ((x94_7 + 1)) (rk_o (rk_o (l94_0) rfl rfl) rfl rfl) (rk_o (rk_o (l94_1) rfl rfl) rfl rfl) (rk_o (rk_o (l94_2) rfl rfl) rfl rfl) (rk_o (rk_o (l94_5) rfl rfl) rfl rfl) (rk_o (rk_o (l94_6) rfl rfl) rfl rfl) (rk_s) H O (hS_94) (SA_upd (hA_94) rfl)    (upd1 (w94_2) (x94_7) ((srI ((v24 % 256)) (4)))) (congrArg (fun q => upd1 q (x94_7) ((srI ((v24 % 256)) (4)))) (ew94_2)) (show inr ((x94_7 + 1)) from q_3728 b20 j94_1) (show (0) ≤ ((x94_7 + 1)) from q_14 j94_1) (show ((x94_7 + 1)) ≤ (0) ∨ ((x94_7 + 1)) ≤ ((((v17 % 256) - 127))) from q_3727 b20) (hw1) (show ∀ i, 0 ≤ i → i < ((x94_7 + 1)) → ((upd1 (w94_2) (x94_7) ((srI ((v24 % 256)) (4))))) i = dDW (ub8 ((w1))) ((a2)) i by assumption) rfl
        · refine Ew_of (pcₚ := 59) (fun _ => x_aload_n rfl (rk_o (lc42_0) rfl rfl)) ?_
          refine Ew_of (pcₚ := 60) (fun _ => x_aload_n rfl (rk_o (lc42_1) rfl rfl)) ?_
          refine Ew_of (pcₚ := 61) (fun _ => x_iload_n rfl (rk_o (lc42_2) rfl rfl)) ?_
          refine Ew_of (pcₚ := 62) (fun _ => x_iconst rfl) ?_
          refine w_iadd rfl ?_
          refine Ew_of (pcₚ := 65) (fun _ => x_iload rfl rk_s) ?_
          refine v_inv H (o := 0) rfl rfl rfl rfl rfl rfl (by rfl) (C108_Br (D := puc 4876667981364767315695969161970176 D) (N := puc 4876667981364767315695969161970176 N) (HW_subc H oz_F4cls_2 oz_F4cls_6) ((mF_c42 0 4 rfl).trans (pf2)) ((mF_c42 0 6 rfl).trans (pf6)) ((mF_c42 6 2 rfl).trans (pf7)) ((mF_c42 6 3 rfl).trans (pf8)) ((mF_c42 6 4 rfl).trans (pf9)) ((mF_c42 6 5 rfl).trans (pf10)) ((mF_c42 6 6 rfl).trans (pf11)) ((mF_c42 6 8 rfl).trans (pf12)) ((mF_c42 6 7 rfl).trans (pf13)) ((mF_c42 6 9 rfl).trans (pf14)) ((mF_c42 0 9 rfl).trans (pf15)) (n1) (en1) (n2) (en2) (n7) (en7) (n8) (en8) (n9) (en9) (n10) (en10) (n11) (en11) (n12) (en12) (n13) (en13) (n14) (en14) (u6_1) (((mF_c42 6 1 rfl).trans (eu6_1))) (w1) ((funext (mA_c42 1 rfl)).trans (ew1)) (A 2) (funext (hA_c42 2 rfl)) (show inr ((a2 + 1)) from q_3733 h2) (show inr (((a2 + 1) + tc42_0)) from q_3725 b18 h2 jc42_0) (show 0 ≤ ((a2 + 1)) ∧ ((a2 + 1)) ≤ 65536 ∧ 0 ≤ (((a2 + 1) + tc42_0)) ∧ (((a2 + 1) + tc42_0)) ≤ (n1) ∧ (n1) ≤ 65536 ∧ ((a2 + 1)) ≤ (((a2 + 1) + tc42_0)) from q_3732 b16 b18 h2 jc42_1) (show (n2) = 256 from q_3731 h3) (show (n7) = (u6_1) ∧ (n8) = (u6_1) ∧ (n9) = (u6_1) ∧ (n10) = (u6_1) ∧ (n11) = (u6_1) ∧ (n12) = (n13) ∧ (n14) = (n13) ∧ 1 ≤ (u6_1) ∧ (u6_1) ≤ 64 ∧ (u6_1) = 12 ∧ (n13) = 64 from h4) (fun z30 σ30 F30ₚ A30ₚ Hₚ Oₚ hS30 hA30 w30_2 ew30_2 pz30_0 pz30_1 pz30_2 pz30_3 => ⟨rfl, ?_⟩))
          refine v_backc (c := c) (s := s) H oz_F4cls_2 oz_F4cls_6 Hₚ Oₚ (fun F30 A30 H Oₚ eF30 eA30 => ?_)
          have O := OUT_trans O Oₚ
          -- Codes.hearByStates
          have cF30 : SF oz_F4clsl_0 F F30 := SF_trans (cF_c42) (SF_gluc (ι := oz_F4clsl_3) oz_F4cls_6 hS30 eF30 (by decide +kernel)) (any_sub (lₚ := [(6, 0), (6, 10), (6, 11), (6, 12), (15, 0), (15, 1), (15, 2)]) (by decide +kernel))
          have mF30 := SFm_of cF30 oz_F4cls_3
          have cA30 : SA oz_F4clsl_1 A A30 := SA_trans (cA_c42) (SA_gluc (ι := oz_F4clsl_3) oz_F4cls_6 hA30 eA30 (by decide +kernel)) (any_subA (lₚ := [2, 7, 8, 9, 10, 11, 12, 13, 14]) (by decide +kernel))
          have mA30 := SAm_of cA30 oz_F4cls_4
          have hwba := pz30_3
          refine Ew_of (pcₚ := 70) (fun _ => x_istore rfl) ?_
          refine Ew_of (pcₚ := 72) (fun _ => x_iload rfl rk_s) ?_
          refine w_ifle (t := 89) rfl rfl (show inr (z30) from pz30_0) (fun b31 => ?_) (fun b31 => ?_)
          · have hno : (-1 : Int) = -1 ∨ LNG ((w3)) ((u0_3)) := .inl rfl
            refine Ew_of (pcₚ := 90) (fun _ => x_iconst rfl) ?_
            have : DSA (ub8 ((w1))) ((a2)) ((a3)) (((-1))) ((u0_3)) ((w3)) := by exact DSA_n (DWN_s (by omega) (by omega) hen.symm (by omega) hwba (by omega) (by omega)) (by omega)
            have : IMP (((-1)) ≠ -1) (CI ((w3)) ((u0_3))) := by exact fun z => absurd rfl z
            have : IMP (((-1)) ≠ -1) (CDX ((w3)) ((u0_3)) ((w5)) ((w4))) := by exact fun z => absurd rfl z
            exact w_ireturn rfl (k ((-1)) _ _ _ H O (cF30) (cA30) (u0_3) (((((show F30 0 3 = F_c42 0 3 from (eF30 0 3).trans (hS30 0 3 rfl))).trans (hS_c42 0 3 rfl)).trans (eu0_3))) (w3) (((show A30 3 = A_c42 3 from (eA30 3))).trans ((funext (hA_c42 3 rfl)).trans (ew3))) (w4) (((show A30 4 = A_c42 4 from (eA30 4))).trans ((funext (hA_c42 4 rfl)).trans (ew4))) (w5) (((show A30 5 = A_c42 5 from (eA30 5))).trans ((funext (hA_c42 5 rfl)).trans (ew5))) (show inr ((-1)) from q_63) (show ((-1)) = -1 ∨ a2 < ((-1)) ∧ ((-1)) ≤ a3 by first | exact q_1454 | omega) (h5) (show ((-1)) = -1 ∨ 0 ≤ (u0_3) ∧ (u0_3) ≤ 11 by first | exact q_3724 | omega) (show ((-1)) = -1 ∨ LNG ((w3)) ((u0_3)) by assumption) (show DSA (ub8 ((w1))) (a2) (a3) (((-1))) ((u0_3)) ((w3)) by assumption) (show IMP (((-1)) ≠ -1) (CI ((w3)) ((u0_3))) by assumption) (show IMP (((-1)) ≠ -1) (CDX ((w3)) ((u0_3)) ((w5)) ((w4))) by assumption))
          · have hDW : DWA (ub8 ((w1))) ((a2)) ((a3)) ((z30)) ((w30_2)) := DWA_s (by omega) (by omega) hen.symm (by omega) hwba (by omega)
            refine Ew_of (pcₚ := 76) (fun _ => x_aload_n rfl (rk_o (rk_o (lc42_0) rfl rfl) rfl rfl)) ?_
            refine Ew_of (pcₚ := 78) (fun _ => x_iload rfl rk_s) ?_
            refine v_inv H (o := 0) rfl rfl rfl rfl rfl rfl (by rfl) (C109 (D := puc 344135042048 D) (N := puc 344135042048 N) (HW_subc H oz_F4cls_1 oz_F4cls_5) ((mF30 0 4 rfl).trans (pf2)) ((mF30 0 0 rfl).trans (pf3)) ((mF30 0 1 rfl).trans (pf4)) ((mF30 0 2 rfl).trans (pf5)) (n2) (en2) (n3) (en3) (n4) (en4) (n5) (en5) (u0_3) (((((show F30 0 3 = F_c42 0 3 from (eF30 0 3).trans (hS30 0 3 rfl))).trans (hS_c42 0 3 rfl)).trans (eu0_3))) (w30_2) ((eA30 2).trans ew30_2) (w3) (((show A30 3 = A_c42 3 from (eA30 3))).trans ((funext (hA_c42 3 rfl)).trans (ew3))) (w4) (((show A30 4 = A_c42 4 from (eA30 4))).trans ((funext (hA_c42 4 rfl)).trans (ew4))) (w5) (((show A30 5 = A_c42 5 from (eA30 5))).trans ((funext (hA_c42 5 rfl)).trans (ew5))) (show inr (z30) from pz30_0) (show (n2) = 256 ∧ (n3) = 256 ∧ (n4) = 256 ∧ (n5) = 2048 from h3) (show 1 ≤ (z30) ∧ (z30) ≤ 255 from q_3734 b31 pz30_1) (pz30_2) (h5) (fun z32 σ32 F32ₚ A32ₚ Hₚ Oₚ hS32 hA32 y32_0_3 ey32_0_3 w32_2 ew32_2 w32_3 ew32_3 w32_4 ew32_4 pz32_0 pz32_1 pz32_2 pz32_3 pz32_4 pz32_5 pz32_6 => ⟨rretB rfl pz32_0, ?_⟩))
            refine v_backc (c := c) (s := s) H oz_F4cls_1 oz_F4cls_5 Hₚ Oₚ (fun F32 A32 H Oₚ eF32 eA32 => ?_)
            have O := OUT_trans O Oₚ
            -- Codes.complete
            have cF32 : SF oz_F4clsl_0 F F32 := SF_trans (cF30) (SF_gluc (ι := oz_F4clsl_2) oz_F4cls_5 hS32 eF32 (by decide +kernel)) (any_sub (lₚ := [(0, 3)]) (by decide +kernel))
            have mF32 := SFm_of cF32 oz_F4cls_3
            have cA32 : SA oz_F4clsl_1 A A32 := SA_trans (cA30) (SA_gluc (ι := oz_F4clsl_2) oz_F4cls_5 hA32 eA32 (by decide +kernel)) (any_subA (lₚ := [2, 3, 4, 5]) (by decide +kernel))
            have mA32 := SAm_of cA32 oz_F4cls_4
            have r33 : (-2147483648 : Int) ≤ y32_0_3 ∧ y32_0_3 ≤ 2147483647 := rngE (show (-2147483648 : Int) ≤ F32 0 3 ∧ F32 0 3 ≤ 2147483647 from H.krg 0 3 (ltn len_V107_Br_oz_F4cls rfl)) (show F32 0 3 = y32_0_3 from ((eF32 0 3).trans ey32_0_3))
            refine w_ifeq (t := 89) rfl rfl (show inr (z32) from q_138 pz32_0) (fun b34 => ?_) (fun b34 => ?_)
            · have hno : (-1 : Int) = -1 ∨ LNG ((w32_2)) ((y32_0_3)) := .inl rfl
              refine Ew_of (pcₚ := 90) (fun _ => x_iconst rfl) ?_
              have : DSA (ub8 ((w1))) ((a2)) ((a3)) (((-1))) ((y32_0_3)) ((w32_2)) := by first | (have h := (pz32_4 _ _ _ hDW).2 (by omega); rw [hen] at h; exact h) | exact (pz32_4 _ _ _ hDW).1 (by omega) _ _ | exact DSA_n (DWN_s (by omega) (by omega) hen.symm (by omega) hwba (by omega) (by omega)) (by omega)
              have : IMP (((-1)) ≠ -1) (CI ((w32_2)) ((y32_0_3))) := by first | exact fun z => absurd rfl z | exact fun _ => pz32_5 (by omega)
              have : IMP (((-1)) ≠ -1) (CDX ((w32_2)) ((y32_0_3)) ((w32_4)) ((w32_3))) := by first | exact fun z => absurd rfl z | exact fun _ => pz32_6 (by omega)
              exact w_ireturn rfl (k ((-1)) _ _ _ H O (cF32) (cA32) (y32_0_3) (((eF32 0 3).trans ey32_0_3)) (w32_2) ((eA32 3).trans ew32_2) (w32_3) ((eA32 4).trans ew32_3) (w32_4) ((eA32 5).trans ew32_4) (show inr ((-1)) from q_63) (show ((-1)) = -1 ∨ a2 < ((-1)) ∧ ((-1)) ≤ a3 by first | exact q_1454 | omega) (pz32_3) (show ((-1)) = -1 ∨ 0 ≤ (y32_0_3) ∧ (y32_0_3) ≤ 11 by first | exact q_3724 | omega) (show ((-1)) = -1 ∨ LNG ((w32_2)) ((y32_0_3)) by assumption) (show DSA (ub8 ((w1))) (a2) (a3) (((-1))) ((y32_0_3)) ((w32_2)) by assumption) (show IMP (((-1)) ≠ -1) (CI ((w32_2)) ((y32_0_3))) by assumption) (show IMP (((-1)) ≠ -1) (CDX ((w32_2)) ((y32_0_3)) ((w32_4)) ((w32_3))) by assumption))
            · have hyc : ((((a2 + 1) + tc42_0)) : Int) = -1 ∨ LNG ((w32_2)) ((y32_0_3)) := .inr (Or.resolve_left pz32_2 (by omega))
              refine Ew_of (pcₚ := 86) (fun _ => x_iload rfl (rk_o (rk_s) rfl rfl)) ?_
              refine Ew_of (pcₚ := 90) (fun _ => x_goto rfl rfl) ?_
              have : DSA (ub8 ((w1))) ((a2)) ((a3)) ((((a2 + 1) + tc42_0))) ((y32_0_3)) ((w32_2)) := by first | (have h := (pz32_4 _ _ _ hDW).2 (by omega); rw [hen] at h; exact h) | exact (pz32_4 _ _ _ hDW).1 (by omega) _ _ | exact DSA_n (DWN_s (by omega) (by omega) hen.symm (by omega) hwba (by omega) (by omega)) (by omega)
              have : IMP ((((a2 + 1) + tc42_0)) ≠ -1) (CI ((w32_2)) ((y32_0_3))) := by first | exact fun z => absurd rfl z | exact fun _ => pz32_5 (by omega)
              have : IMP ((((a2 + 1) + tc42_0)) ≠ -1) (CDX ((w32_2)) ((y32_0_3)) ((w32_4)) ((w32_3))) := by first | exact fun z => absurd rfl z | exact fun _ => pz32_6 (by omega)
              exact w_ireturn rfl (k (((a2 + 1) + tc42_0)) _ _ _ H O (cF32) (cA32) (y32_0_3) (((eF32 0 3).trans ey32_0_3)) (w32_2) ((eA32 3).trans ew32_2) (w32_3) ((eA32 4).trans ew32_3) (w32_4) ((eA32 5).trans ew32_4) (show inr (((a2 + 1) + tc42_0)) from q_3725 b18 h2 jc42_0) (show (((a2 + 1) + tc42_0)) = -1 ∨ a2 < (((a2 + 1) + tc42_0)) ∧ (((a2 + 1) + tc42_0)) ≤ a3 by omega) (pz32_3) (show (((a2 + 1) + tc42_0)) = -1 ∨ 0 ≤ (y32_0_3) ∧ (y32_0_3) ≤ 11 by omega) (hyc) (show DSA (ub8 ((w1))) (a2) (a3) ((((a2 + 1) + tc42_0))) ((y32_0_3)) ((w32_2)) by assumption) (show IMP ((((a2 + 1) + tc42_0)) ≠ -1) (CI ((w32_2)) ((y32_0_3))) by assumption) (show IMP ((((a2 + 1) + tc42_0)) ≠ -1) (CDX ((w32_2)) ((y32_0_3)) ((w32_4)) ((w32_3))) by assumption))
      · have hno : (-1 : Int) = -1 ∨ LNG ((w3)) ((u0_3)) := .inl rfl
        refine Ew_of (pcₚ := 52) (fun _ => x_iconst rfl) ?_
        have : DSA (ub8 ((w1))) ((a2)) ((a3)) (((-1))) ((u0_3)) ((w3)) := DSA_n (.inr ⟨by omega, .inl (by omega)⟩) (by omega)
        have : IMP ((-1 : Int) ≠ -1) (CI ((w3)) ((u0_3))) := fun z => absurd rfl z
        have : IMP ((-1 : Int) ≠ -1) (CDX ((w3)) ((u0_3)) ((w5)) ((w4))) := fun z => absurd rfl z
        exact w_ireturn rfl (k ((-1)) _ _ _ H O (cF_c42) (cA_c42) (u0_3) (((hS_c42 0 3 rfl).trans (eu0_3))) (w3) ((funext (hA_c42 3 rfl)).trans (ew3)) (w4) ((funext (hA_c42 4 rfl)).trans (ew4)) (w5) ((funext (hA_c42 5 rfl)).trans (ew5)) (show inr ((-1)) from q_63) (show ((-1)) = -1 ∨ a2 < ((-1)) ∧ ((-1)) ≤ a3 by first | exact q_1454 | omega) (h5) (show ((-1)) = -1 ∨ 0 ≤ (u0_3) ∧ (u0_3) ≤ 11 by first | exact q_3724 | omega) (show ((-1)) = -1 ∨ LNG ((w3)) ((u0_3)) by assumption) (show DSA (ub8 ((w1))) (a2) (a3) (((-1))) ((u0_3)) ((w3)) by assumption) (show IMP (((-1)) ≠ -1) (CI ((w3)) ((u0_3))) by assumption) (show IMP (((-1)) ≠ -1) (CDX ((w3)) ((u0_3)) ((w5)) ((w4))) by assumption))
    refine w_ifle (t := 40) rfl rfl (show inr (((v17 % 256) - 127)) from q_3719) (fun b35 => ?_) (fun b35 => ?_)
    · refine Ew_of (pcₚ := 42) (fun _ => x_iload rfl (rk_o (rk_s) rfl rfl)) ?_
      exact hc42 ((v17 % 256)) _ _ _ _  (rk_o (rk_o (rfl) rfl rfl) rfl rfl) (rk_o (rk_o (rfl) rfl rfl) rfl rfl) (rk_o (rk_o (rfl) rfl rfl) rfl rfl) (rk_o (rk_o (rfl) rfl rfl) rfl rfl) (rk_s) H O (SF_refl) (SA_refl)     (show inr ((v17 % 256)) from q_3736 b35) (show ((((v17 % 256) - 127)) ≤ (0) ∧ ((v17 % 256)) = ((v17 % 256))) ∨ ((((v17 % 256) - 127)) > (0) ∧ ((v17 % 256)) = (((((v17 % 256) - 127) + 1) / 2))) from q_3735 b35)
    · refine Ew_of (pcₚ := 33) (fun _ => x_iload rfl rk_s) ?_
      refine Ew_of (pcₚ := 34) (fun _ => x_iconst rfl) ?_
      refine w_iadd rfl ?_
      refine Ew_of (pcₚ := 36) (fun _ => x_iconst rfl) ?_
      refine w_idiv rfl (show inr ((((v17 % 256) - 127) + 1)) ∧ 0 ≤ (((v17 % 256) - 127) + 1) from q_3737 b35) (show inr (2) ∧ 0 < 2 from q_1234) ?_
      refine Ew_of (pcₚ := 42) (fun _ => x_goto rfl rfl) ?_
      exact hc42 (((((v17 % 256) - 127) + 1) / 2)) _ _ _ _  (rk_o (rk_o (rfl) rfl rfl) rfl rfl) (rk_o (rk_o (rfl) rfl rfl) rfl rfl) (rk_o (rk_o (rfl) rfl rfl) rfl rfl) (rk_o (rk_o (rfl) rfl rfl) rfl rfl) (rk_s) H O (SF_refl) (SA_refl)     (show inr (((((v17 % 256) - 127) + 1) / 2)) from q_3739 b35) (show ((((v17 % 256) - 127)) ≤ (0) ∧ (((((v17 % 256) - 127) + 1) / 2)) = ((v17 % 256))) ∨ ((((v17 % 256) - 127)) > (0) ∧ (((((v17 % 256) - 127) + 1) / 2)) = (((((v17 % 256) - 127) + 1) / 2))) from q_3738 b35)
  · have hno : (-1 : Int) = -1 ∨ LNG ((w3)) ((u0_3)) := .inl rfl
    refine Ew_of (pcₚ := 6) (fun _ => x_iconst rfl) ?_
    have : DSA (ub8 ((w1))) ((a2)) ((a3)) (((-1))) ((u0_3)) ((w3)) := DSA_n (.inl (by omega)) (by omega)
    have : IMP ((-1 : Int) ≠ -1) (CI ((w3)) ((u0_3))) := fun z => absurd rfl z
    have : IMP ((-1 : Int) ≠ -1) (CDX ((w3)) ((u0_3)) ((w5)) ((w4))) := fun z => absurd rfl z
    exact w_ireturn rfl (k ((-1)) _ _ _ H O (SF_refl) (SA_refl) (u0_3) ((eu0_3)) (w3) (ew3) (w4) (ew4) (w5) (ew5) (show inr ((-1)) from q_63) (show ((-1)) = -1 ∨ a2 < ((-1)) ∧ ((-1)) ≤ a3 by first | exact q_1454 | omega) (h5) (show ((-1)) = -1 ∨ 0 ≤ (u0_3) ∧ (u0_3) ≤ 11 by first | exact q_3724 | omega) (show ((-1)) = -1 ∨ LNG ((w3)) ((u0_3)) by assumption) (show DSA (ub8 ((w1))) (a2) (a3) (((-1))) ((u0_3)) ((w3)) by assumption) (show IMP (((-1)) ≠ -1) (CI ((w3)) ((u0_3))) by assumption) (show IMP (((-1)) ≠ -1) (CDX ((w3)) ((u0_3)) ((w5)) ((w4))) by assumption))
abbrev V110_Br_Row : vV := [(0, 3, [(4, 0), (4, 0), (4, 0), (0, 0), (4, 0), (4, 0), (4, 0), (4, 0), (4, 0), (4, 0), (4, 0), (4, 0), (4, 0), (0, 0), (0, 0), (0, 0), (0, 0)]), (1, 0, []), (0, 7, [(4, 0), (0, 0), (1, 0), (0, 0), (0, 0)]), (1, 1, []), (1, 0, []), (0, 2, [(4, 0), (0, 0), (0, 0)])]
theorem len_V110_Br_Row_oz_F4cls : (V110_Br_Row).length = 6 := by decide +kernel
theorem oz_F4cls_8 : vsub V110_Br_Row V93_Br [5, 1] = true := by decide +kernel
theorem oz_F4cls_9 : vsub V110_Br_Row V94 [5, 1] = true := by decide +kernel
def oz_F4clsl_4 : List (Nat × Nat) := [(2, 1), (5, 0), (5, 1), (5, 2)]
theorem oz_F4cls_10 : (oz_F4clsl_4).all (fun p => !tbz 10230511461316320427425793829050874625738946904064 (Nat.add (Nat.mul 32 p.1) p.2)) = true := by decide +kernel
def oz_F4clsl_5 : List Nat := [4]
theorem oz_F4cls_11 : (oz_F4clsl_5).all (fun p => !tbz 16 p) = true := by decide +kernel
def oz_F4clsl_6 : List Nat := [5, 1]
theorem oz_F4cls_12 : okc oz_F4clsl_6 517 = true := by decide +kernel

theorem C110_Br_Row {σE : rS} {D N : Nat → Nat} {F : hF} {A : hA} {d c s : Nat} {Q : wQ} (H : HW V110_Br_Row σE D N F A) {a2 a3 a4 : Int} (pf3 : F 0 2 = (D 3 : Int)) (pf4 : F 2 0 = (D 4 : Int)) (pf5 : F 0 9 = (D 5 : Int)) (n1 : Int) (en1 : (N 1 : Int) = n1) (n3 : Int) (en3 : (N 3 : Int) = n3) (n4 : Int) (en4 : (N 4 : Int) = n4) (u0_3 : Int) (eu0_3 : F 0 3 = u0_3) (u2_1 : Int) (eu2_1 : F 2 1 = u2_1) (w1 : Int → Int) (ew1 : A 1 = w1) (w3 : Int → Int) (ew3 : A 3 = w3) (w4 : Int → Int) (ew4 : A 4 = w4) (GG : Int → Int) (AA : List Int) (h0 : inr (a2)) (h1 : inr (a3)) (h2 : inr (a4)) (h3 : 0 ≤ (a2) ∧ (a2) ≤ 65536 ∧ 0 ≤ (a3) ∧ (a3) ≤ (n1) ∧ (n1) ≤ 65536 ∧ (a2) ≤ 200000) (h4 : 0 ≤ ((u0_3)) ∧ ((u0_3)) ≤ 11) (h5 : CEL ((w3))) (h6 : (n3) = 2048) (h7 : 0 ≤ (u2_1) ∧ (u2_1) ≤ (n4) ∧ (n4) ≤ 65536) (h8 : 0 ≤ (a4)) (h9 : CI GG ((u0_3))) (h10 : fl ((w3)) (p2 ((u0_3))) = (CELS GG ((u0_3))).map (clF GG)) (h11 : LKP ((w4)) ((u2_1)) ((n4)) AA) (k : ∀ (z : Int) (σ : rS) (Fₚ : hF) (Aₚ : hA), HW V110_Br_Row σ D N Fₚ Aₚ → OUT (V110_Br_Row).length D N σE c s D N σ c s → SF [(2, 1), (5, 0), (5, 1), (5, 2)] F Fₚ → SA [4] A Aₚ → ∀ y2_1 : Int, Fₚ 2 1 = y2_1 → ∀ v4 : Int → Int, Aₚ 4 = v4 → ((z) = 0 ∨ (z) = 1) → (0 ≤ (y2_1) ∧ (y2_1) ≤ (n4) ∧ (n4) ≤ 65536) → ((u2_1) ≤ (y2_1)) → (DCB (ub8 ((w1))) GG ((a2)) ((a3)) ((u0_3)) ((a4)) AA ((z)) ((v4)) ((y2_1)) ((n4))) → Q (some (I z)) σ c s) : Ew 110 (d + 2) 0 (rargs 0 [.ref (D 0), .ref (D 1), I a2, I a3, I a4, .ref (D 2)]) [] σE c s Q := by
  have O := OUT_refl (n := (V110_Br_Row).length) (D := D) (N := N) (σ := σE) (c := c) (s := s)
  have HE := H
  have r1 : (-2147483648 : Int) ≤ u0_3 ∧ u0_3 ≤ 2147483647 := rngE (show (-2147483648 : Int) ≤ F 0 3 ∧ F 0 3 ≤ 2147483647 from H.krg 0 3 (ltn len_V110_Br_Row_oz_F4cls rfl)) (show F 0 3 = u0_3 from (eu0_3))
  have r2 : (-2147483648 : Int) ≤ u2_1 ∧ u2_1 ≤ 2147483647 := rngE (show (-2147483648 : Int) ≤ F 2 1 ∧ F 2 1 ≤ 2147483647 from H.krg 2 1 (ltn len_V110_Br_Row_oz_F4cls rfl)) (show F 2 1 = u2_1 from (eu2_1))
  have r3 : (0 : Int) ≤ n1 ∧ n1 ≤ 1000000 := nleE (H.nle 1 (ltn len_V110_Br_Row_oz_F4cls rfl)) (show (N 1 : Int) = n1 from en1)
  have r4 : (0 : Int) ≤ n3 ∧ n3 ≤ 1000000 := nleE (H.nle 3 (ltn len_V110_Br_Row_oz_F4cls rfl)) (show (N 3 : Int) = n3 from en3)
  have r5 : (0 : Int) ≤ n4 ∧ n4 ≤ 1000000 := nleE (H.nle 4 (ltn len_V110_Br_Row_oz_F4cls rfl)) (show (N 4 : Int) = n4 from en4)
  have hcel : CEL ((w3)) := h5
  have hcig : CI GG ((u0_3)) := h9
  have hceq : fl ((w3)) (p2 ((u0_3))) = (CELS GG ((u0_3))).map (clF GG) := h10
  refine Ew_of (pcₚ := 1) (fun _ => x_aload_n rfl rfl) ?_
  refine v_g H (o := 0) (v := .ref (D 5)) rfl rfl rfl rfl rfl (vrf (pf5)) ?_
  refine Ew_of (pcₚ := 5) (fun _ => x_aload_n rfl rfl) ?_
  refine Ew_of (pcₚ := 6) (fun _ => x_iload_n rfl rfl) ?_
  refine Ew_of (pcₚ := 7) (fun _ => x_iload_n rfl rfl) ?_
  have r6 : (-2147483648 : Int) ≤ F 5 1 ∧ F 5 1 ≤ 2147483647 := H.krg 5 1 (ltn len_V110_Br_Row_oz_F4cls rfl)
  have r7 : (-2147483648 : Int) ≤ F 5 2 ∧ F 5 2 ≤ 2147483647 := H.krg 5 2 (ltn len_V110_Br_Row_oz_F4cls rfl)
  refine v_inv H (o := 5) rfl rfl rfl rfl rfl rfl (by rfl) (C93_Br (D := puc 517 D) (N := puc 517 N) (HW_subc H oz_F4cls_8 oz_F4cls_12) (n1) (en1) (F 5 1) (rfl) (F 5 2) (rfl) (w1) (ew1) (show inr (a2) from h0) (show inr (a3) from h1) (show 0 ≤ (a2) ∧ (a3) ≤ (n1) ∧ (n1) ≤ 65536 ∧ 0 ≤ (a3) ∧ (a2) ≤ 200000 from q_3740 h3) (fun z8 σ8 F8ₚ A8ₚ Hₚ Oₚ hS8 hA8 y8_0_1 ey8_0_1 y8_0_2 ey8_0_2 pq8_0 pz8_0 pz8_1 pz8_2 pz8_3 => ⟨rretB rfl pz8_0, ?_⟩))
  refine v_backc (c := c) (s := s) H oz_F4cls_8 oz_F4cls_12 Hₚ Oₚ (fun F8 A8 H Oₚ eF8 eA8 => ?_)
  have O := OUT_trans O Oₚ
  -- BitSource.begin
  have cF8 : SF oz_F4clsl_4 F F8 := SF_trans (SF_refl) (SF_gluc (ι := oz_F4clsl_6) oz_F4cls_12 hS8 eF8 (by decide +kernel)) (any_sub (lₚ := [(5, 0), (5, 1), (5, 2)]) (by decide +kernel))
  have mF8 := SFm_of cF8 oz_F4cls_10
  have cA8 : SA oz_F4clsl_5 A A8 := SA_trans (SA_refl) (SA_gluc (ι := oz_F4clsl_6) oz_F4cls_12 hA8 eA8 (by decide +kernel)) (any_subA (lₚ := []) (by decide +kernel))
  have mA8 := SAm_of cA8 oz_F4cls_11
  have pl8_0 : F8 5 0 = (D 1 : Int) := (eF8 5 0).trans (pq8_0)
  have r9 : (-2147483648 : Int) ≤ y8_0_1 ∧ y8_0_1 ≤ 2147483647 := rngE (show (-2147483648 : Int) ≤ F8 5 1 ∧ F8 5 1 ≤ 2147483647 from H.krg 5 1 (ltn len_V110_Br_Row_oz_F4cls rfl)) (show F8 5 1 = y8_0_1 from ((eF8 5 1).trans ey8_0_1))
  have r10 : (-2147483648 : Int) ≤ y8_0_2 ∧ y8_0_2 ≤ 2147483647 := rngE (show (-2147483648 : Int) ≤ F8 5 2 ∧ F8 5 2 ≤ 2147483647 from H.krg 5 2 (ltn len_V110_Br_Row_oz_F4cls rfl)) (show F8 5 2 = y8_0_2 from ((eF8 5 2).trans ey8_0_2))
  have hop := pz8_3
  refine w_ifne (t := 15) rfl rfl (show inr (z8) from q_138 pz8_0) (fun b11 => ?_) (fun b11 => ?_)
  · have hop1 : OPS (ub8 ((w1))) ((a2)) ((a3)) 1 ((y8_0_2)) := by have h := hop; rw [show z8 = 1 by omega] at h; exact h
    refine Ew_of (pcₚ := 16) (fun _ => x_iconst rfl) ?_
    refine Ew_of (pcₚ := 18) (fun _ => x_istore rfl) ?_
    have : DCJ (ub8 ((w1))) GG ((a2)) ((a3)) ((u0_3)) ((a4)) AA 0 ((y8_0_2)) ((w4)) ((u2_1)) ((n4)) := DCJ_0 hop1 (by omega) (by assumption)
    suffices hl18 : ∀ (m : Nat), ∀ (ls : rO) (σ : rS) (F_18 : hF) (A_18 : hA) (x18_6 : Int), rlook ls 0 = some (.ref (D 0)) → rlook ls 4 = some (I (a4)) → rlook ls 5 = some (.ref (D 2)) → rlook ls 6 = some (I (x18_6)) → HW V110_Br_Row σ D N F_18 A_18 → OUT (V110_Br_Row).length D N σE c s D N σ c s → SF [(2, 1), (5, 2)] F8 F_18 → SA [4] A8 A_18 → ∀ y18_2_1 : Int, F_18 2 1 = y18_2_1 → ∀ y18_5_2 : Int, F_18 5 2 = y18_5_2 → ∀ w18_4 : Int → Int, A_18 4 = w18_4 → (inr (x18_6)) → ((0) ≤ (x18_6)) → ((x18_6) ≤ (0) ∨ (x18_6) ≤ ((a4))) → (0 ≤ (y18_2_1) ∧ (y18_2_1) ≤ (n4) ∧ (n4) ≤ 65536) → ((u2_1) ≤ (y18_2_1)) → (-11 ≤ (y18_5_2) ∧ (y18_5_2) ≤ 8 * ((n1) - (y8_0_1))) → ((y8_0_1) = (a2)) → (DCJ (ub8 ((w1))) GG ((a2)) ((a3)) ((u0_3)) ((a4)) AA ((x18_6)) ((y18_5_2)) ((w18_4)) ((y18_2_1)) ((n4))) → (((a4)) - (x18_6)).toNat = m → Ew 110 (d + 2) 18 ls [] σ c s Q from
      hl18 _ _ _ _ _ (0) (rk_o (rfl) rfl rfl) (rk_o (rfl) rfl rfl) (rk_o (rfl) rfl rfl) (rk_s) H O (SF_refl) (SA_refl)   (u2_1) ((((show F8 2 1 = F 2 1 from (eF8 2 1))).trans (eu2_1))) (y8_0_2) (((eF8 5 2).trans ey8_0_2)) (w4) (((show A8 4 = A 4 from (eA8 4))).trans (ew4)) (show inr (0) from q_2) (show (0) ≤ (0) from q_1) (show (0) ≤ (0) ∨ (0) ≤ ((a4)) from q_5) (show 0 ≤ (u2_1) ∧ (u2_1) ≤ (n4) ∧ (n4) ≤ 65536 from h7) (show (u2_1) ≤ (u2_1) from q_43) (show -11 ≤ (y8_0_2) ∧ (y8_0_2) ≤ 8 * ((n1) - (y8_0_1)) by omega) (show (y8_0_1) = (a2) from pz8_1) (show DCJ (ub8 ((w1))) GG ((a2)) ((a3)) ((u0_3)) ((a4)) AA ((0)) ((y8_0_2)) ((w4)) ((u2_1)) ((n4)) by assumption) rfl
    as_aux_lemma =>
    intro m
    induction m using Nat.strongRecOn with
    | _ m ih18 =>
      intro ls σ F_18 A_18 x18_6 l18_0 l18_4 l18_5 l18_6 H O hS_18 hA_18   y18_2_1 ey18_2_1 y18_5_2 ey18_5_2 w18_4 ew18_4 j18_0 j18_1 j18_2 j18_3 j18_4 j18_5 j18_6 j18_7 hm18
      have cF_18 : SF oz_F4clsl_4 F F_18 := SF_trans (cF8) hS_18 (any_sub (by decide +kernel))
      have mF_18 := SFm_of cF_18 oz_F4cls_10
      have cA_18 : SA oz_F4clsl_5 A A_18 := SA_trans (cA8) hA_18 (any_subA (by decide +kernel))
      have mA_18 := SAm_of cA_18 oz_F4cls_11
      have r12 : (-2147483648 : Int) ≤ y18_2_1 ∧ y18_2_1 ≤ 2147483647 := rngE (show (-2147483648 : Int) ≤ F_18 2 1 ∧ F_18 2 1 ≤ 2147483647 from H.krg 2 1 (ltn len_V110_Br_Row_oz_F4cls rfl)) (show F_18 2 1 = y18_2_1 from (ey18_2_1))
      have r13 : (-2147483648 : Int) ≤ y18_5_2 ∧ y18_5_2 ≤ 2147483647 := rngE (show (-2147483648 : Int) ≤ F_18 5 2 ∧ F_18 5 2 ≤ 2147483647 from H.krg 5 2 (ltn len_V110_Br_Row_oz_F4cls rfl)) (show F_18 5 2 = y18_5_2 from (ey18_5_2))
      have j18_j : DCJ (ub8 ((w1))) GG ((a2)) ((a3)) ((u0_3)) ((a4)) AA ((x18_6)) ((y18_5_2)) ((w18_4)) ((y18_2_1)) ((n4)) := j18_7
      refine Ew_of (pcₚ := 20) (fun _ => x_iload rfl l18_6) ?_
      refine Ew_of (pcₚ := 22) (fun _ => x_iload rfl l18_4) ?_
      have hc112 : ∀ (ls : rO) (σ : rS) (F_c112 : hF) (A_c112 : hA) , rlook ls 0 = some (.ref (D 0)) → HW V110_Br_Row σ D N F_c112 A_c112 → OUT (V110_Br_Row).length D N σE c s D N σ c s → SF [] F_18 F_c112 → SA [] A_18 A_c112 → (((x18_6) ≥ (a4)) ∨ ((x18_6) < (a4) ∧ (y18_5_2) < (0))) → Ew 110 (d + 2) 112 ls [] σ c s Q := by
       as_aux_lemma =>
        intro  ls σ F_c112 A_c112  lc112_0 H O hS_c112 hA_c112     jc112_0
        have cF_c112 : SF oz_F4clsl_4 F F_c112 := SF_trans (cF_18) hS_c112 (any_sub (by decide +kernel))
        have mF_c112 := SFm_of cF_c112 oz_F4cls_10
        have cA_c112 : SA oz_F4clsl_5 A A_c112 := SA_trans (cA_18) hA_c112 (any_subA (by decide +kernel))
        have mA_c112 := SAm_of cA_c112 oz_F4cls_11
        refine Ew_of (pcₚ := 113) (fun _ => x_aload_n rfl lc112_0) ?_
        refine v_g H (o := 0) (v := .ref (D 5)) rfl rfl rfl rfl rfl (vrf ((mF_c112 0 9 rfl).trans (pf5))) ?_
        refine v_g H (o := 5) (v := I (y18_5_2)) rfl rfl rfl rfl rfl (congrArg (fun z : Int => I z) (((hS_c112 5 2 rfl).trans (ey18_5_2)) : F_c112 5 2 = y18_5_2)) ?_
        refine w_ifne (t := 126) rfl rfl (show inr (y18_5_2) from q_3741 j18_5 r13) (fun b14 => ?_) (fun b14 => ?_)
        · refine Ew_of (pcₚ := 127) (fun _ => x_iconst rfl) ?_
          have : DCB (ub8 ((w1))) GG ((a2)) ((a3)) ((u0_3)) ((a4)) AA ((0)) ((w18_4)) ((y18_2_1)) ((n4)) := DCJ_e j18_j (by omega) (by omega)
          exact w_ireturn rfl (k (0) _ _ _ H O (cF_c112) (cA_c112) (y18_2_1) (((hS_c112 2 1 rfl).trans (ey18_2_1))) (w18_4) ((funext (hA_c112 4 rfl)).trans (ew18_4)) (show (0) = 0 ∨ (0) = 1 by first | exact q_45 | omega) (show 0 ≤ (y18_2_1) ∧ (y18_2_1) ≤ (n4) ∧ (n4) ≤ 65536 from j18_3) (show (u2_1) ≤ (y18_2_1) from j18_4) (show DCB (ub8 ((w1))) GG (a2) (a3) ((u0_3)) (a4) AA ((0)) ((w18_4)) ((y18_2_1)) ((n4)) by assumption))
        · refine Ew_of (pcₚ := 123) (fun _ => x_iconst rfl) ?_
          refine Ew_of (pcₚ := 127) (fun _ => x_goto rfl rfl) ?_
          have : DCB (ub8 ((w1))) GG ((a2)) ((a3)) ((u0_3)) ((a4)) AA ((1)) ((w18_4)) ((y18_2_1)) ((n4)) := DCJ_e j18_j (by omega) (by omega)
          exact w_ireturn rfl (k (1) _ _ _ H O (cF_c112) (cA_c112) (y18_2_1) (((hS_c112 2 1 rfl).trans (ey18_2_1))) (w18_4) ((funext (hA_c112 4 rfl)).trans (ew18_4)) (show (1) = 0 ∨ (1) = 1 by first | exact q_49 | omega) (show 0 ≤ (y18_2_1) ∧ (y18_2_1) ≤ (n4) ∧ (n4) ≤ 65536 from j18_3) (show (u2_1) ≤ (y18_2_1) from j18_4) (show DCB (ub8 ((w1))) GG (a2) (a3) ((u0_3)) (a4) AA ((1)) ((w18_4)) ((y18_2_1)) ((n4)) by assumption))
      refine w_icmpge (t := 112) rfl rfl (show inr (x18_6) from j18_0) (show inr (a4) from h2) (fun b15 => ?_) (fun b15 => ?_)
      · exact hc112  _ _ _ _  (l18_0) H O (SF_refl) (SA_refl)     (show ((x18_6) ≥ (a4)) ∨ ((x18_6) < (a4) ∧ (y18_5_2) < (0)) from q_3742 b15)
      · refine Ew_of (pcₚ := 26) (fun _ => x_aload_n rfl l18_0) ?_
        refine v_g H (o := 0) (v := .ref (D 5)) rfl rfl rfl rfl rfl (vrf ((mF_18 0 9 rfl).trans (pf5))) ?_
        refine v_g H (o := 5) (v := I (y18_5_2)) rfl rfl rfl rfl rfl (congrArg (fun z : Int => I z) ((ey18_5_2) : F_18 5 2 = y18_5_2)) ?_
        refine w_iflt (t := 112) rfl rfl (show inr (y18_5_2) from q_3741 j18_5 r13) (fun b16 => ?_) (fun b16 => ?_)
        · exact hc112  _ _ _ _  (l18_0) H O (SF_refl) (SA_refl)     (show ((x18_6) ≥ (a4)) ∨ ((x18_6) < (a4) ∧ (y18_5_2) < (0)) from q_3743 b15 b16)
        · refine Ew_of (pcₚ := 36) (fun _ => x_aload_n rfl l18_0) ?_
          refine v_g H (o := 0) (v := .ref (D 3)) rfl rfl rfl rfl rfl (vrf ((mF_18 0 2 rfl).trans (pf3))) ?_
          refine Ew_of (pcₚ := 40) (fun _ => x_aload_n rfl l18_0) ?_
          refine v_g H (o := 0) (v := .ref (D 5)) rfl rfl rfl rfl rfl (vrf ((mF_18 0 9 rfl).trans (pf5))) ?_
          refine Ew_of (pcₚ := 44) (fun _ => x_aload_n rfl l18_0) ?_
          refine v_g H (o := 0) (v := I (u0_3)) rfl rfl rfl rfl rfl (congrArg (fun z : Int => I z) (((mF_18 0 3 rfl).trans (eu0_3)) : F_18 0 3 = u0_3)) ?_
          refine v_inv H (o := 5) rfl rfl rfl rfl rfl rfl (by rfl) (C94 (D := puc 517 D) (N := puc 517 N) (HW_subc H oz_F4cls_9 oz_F4cls_12) (((hS_18 5 0 rfl)).trans (pl8_0)) (n1) (en1) (y8_0_1) (((hS_18 5 1 rfl).trans ((eF8 5 1).trans ey8_0_1))) (y18_5_2) ((ey18_5_2)) (w1) ((funext (mA_18 1 rfl)).trans (ew1)) (show inr (u0_3) from q_1389 h4) (show 0 ≤ (u0_3) ∧ (u0_3) ≤ 31 from q_2209 h4) (show 0 ≤ (y8_0_1) ∧ (y8_0_1) ≤ 65536 ∧ (y18_5_2) ≤ 8 * ((n1) - (y8_0_1)) ∧ (n1) ≤ 65536 from q_3745 b16 h3 j18_5 j18_6) (show -100 ≤ (y18_5_2) from q_3744 b16) (fun z17 σ17 F17ₚ A17ₚ Hₚ Oₚ hS17 hA17 pz17_0 pz17_1 pz17_2 => ⟨rfl, ?_⟩))
          refine v_backc (c := c) (s := s) H oz_F4cls_9 oz_F4cls_12 Hₚ Oₚ (fun F17 A17 H Oₚ eF17 eA17 => ?_)
          have O := OUT_trans O Oₚ
          -- BitSource.peek
          have cF17 : SF oz_F4clsl_4 F F17 := SF_trans (cF_18) (SF_gluc (ι := oz_F4clsl_6) oz_F4cls_12 hS17 eF17 (by decide +kernel)) (any_sub (lₚ := []) (by decide +kernel))
          have mF17 := SFm_of cF17 oz_F4cls_10
          have cA17 : SA oz_F4clsl_5 A A17 := SA_trans (cA_18) (SA_gluc (ι := oz_F4clsl_6) oz_F4cls_12 hA17 eA17 (by decide +kernel)) (any_subA (lₚ := []) (by decide +kernel))
          have mA17 := SAm_of cA17 oz_F4cls_11
          refine w_l2i rfl ?_
          have hpg : p2 ((u0_3)) ≤ p2 11 := p2_mono (by omega)
          have hp11 : p2 11 = 2048 := by decide
          refine v_lI H (o := 3) rfl rfl rfl rfl (n := n3) (en3) (show 0 ≤ z17 ∧ z17 < n3 from q_3746 h6 hp11 hpg pz17_1) (fun v18 ev18 qv18 => ?_)
          have ev18 : (w3) (z17) = v18 := (congrFun ((funext (mA17 3 rfl)).trans (ew3)) (z17)).symm.trans ev18
          have hcb := hcel (z17)
          rw [ev18] at hcb
          have hpk := pz17_2
          have hbg : 8 * (y8_0_1) = 8 * (a2) := q_3747 j18_6
          rw [hbg] at hpk
          have hcx := CEM_at hceq (c := z17) (by omega) (by omega)
          rw [ev18] at hcx
          refine Ew_of (pcₚ := 54) (fun _ => x_istore rfl) ?_
          have hc89 : ∀ (ls : rO) (σ : rS) (F_c89 : hF) (A_c89 : hA) , rlook ls 0 = some (.ref (D 0)) → rlook ls 4 = some (I (a4)) → rlook ls 5 = some (.ref (D 2)) → rlook ls 6 = some (I (x18_6)) → rlook ls 7 = some (I (v18)) → HW V110_Br_Row σ D N F_c89 A_c89 → OUT (V110_Br_Row).length D N σE c s D N σ c s → SF [(2, 1)] F17 F_c89 → SA [4] A17 A_c89 → ∀ yc89_2_1 : Int, F_c89 2 1 = yc89_2_1 → ∀ wc89_4 : Int → Int, A_c89 4 = wc89_4 → (0 ≤ (yc89_2_1) ∧ (yc89_2_1) ≤ (n4) ∧ (n4) ≤ 65536) → ((u2_1) ≤ (yc89_2_1)) → (DCJ (ub8 ((w1))) GG ((a2)) ((a3)) ((u0_3)) ((a4)) AA ((x18_6) + 1) ((y18_5_2) - (v18) / 256) ((wc89_4)) ((yc89_2_1)) ((n4))) → Ew 110 (d + 2) 89 ls [] σ c s Q := by
           as_aux_lemma =>
            intro  ls σ F_c89 A_c89  lc89_0 lc89_4 lc89_5 lc89_6 lc89_7 H O hS_c89 hA_c89   yc89_2_1 eyc89_2_1 wc89_4 ewc89_4 jc89_0 jc89_1 jc89_2
            have cF_c89 : SF oz_F4clsl_4 F F_c89 := SF_trans (cF17) hS_c89 (any_sub (by decide +kernel))
            have mF_c89 := SFm_of cF_c89 oz_F4cls_10
            have cA_c89 : SA oz_F4clsl_5 A A_c89 := SA_trans (cA17) hA_c89 (any_subA (by decide +kernel))
            have mA_c89 := SAm_of cA_c89 oz_F4cls_11
            have r19 : (-2147483648 : Int) ≤ yc89_2_1 ∧ yc89_2_1 ≤ 2147483647 := rngE (show (-2147483648 : Int) ≤ F_c89 2 1 ∧ F_c89 2 1 ≤ 2147483647 from H.krg 2 1 (ltn len_V110_Br_Row_oz_F4cls rfl)) (show F_c89 2 1 = yc89_2_1 from (eyc89_2_1))
            have k89 : DCJ (ub8 ((w1))) GG ((a2)) ((a3)) ((u0_3)) ((a4)) AA ((x18_6) + 1) ((y18_5_2) - (v18) / 256) ((wc89_4)) ((yc89_2_1)) ((n4)) := jc89_2
            obtain ⟨ql, hql⟩ : ∃ q : Int, q = (y18_5_2) - (v18) / 256 := ⟨_, rfl⟩
            rw [← hql] at k89
            refine Ew_of (pcₚ := 90) (fun _ => x_aload_n rfl lc89_0) ?_
            refine v_g H (o := 0) (v := .ref (D 5)) rfl rfl rfl rfl rfl (vrf ((mF_c89 0 9 rfl).trans (pf5))) ?_
            refine Ew_of (pcₚ := 94) (fun _ => x_dup rfl rfl) ?_
            refine v_g H (o := 5) (v := I (y18_5_2)) rfl rfl rfl rfl rfl (congrArg (fun z : Int => I z) ((((hS_c89 5 2 rfl).trans ((show F17 5 2 = F_18 5 2 from (eF17 5 2).trans (hS17 0 2 rfl)))).trans (ey18_5_2)) : F_c89 5 2 = y18_5_2)) ?_
            refine Ew_of (pcₚ := 99) (fun _ => x_iload rfl lc89_7) ?_
            refine Ew_of (pcₚ := 101) (fun _ => x_bipush (z := 8) rfl (by decide)) ?_
            refine w_ishrK 8 256 (by decide) (by decide) rfl (show inr (v18) from qv18) (fun z20 gz20 dz20 => ?_)
            refine w_isub rfl ?_
            refine v_p H (o := 5) (z := (y18_5_2 - z20)) (v := I ((y18_5_2 - z20))) rfl rfl rfl rfl rfl rfl rfl rfl (show (-2147483648 : Int) ≤ (y18_5_2 - z20) ∧ (y18_5_2 - z20) ≤ 2147483647 by omega) (fun σ H Oₚ => ?_)
            have O := OUT_trans O Oₚ
            have cFu21 : SF oz_F4clsl_4 F (updF F_c89 5 2 ((y18_5_2 - z20))) := SF_upd (cF_c89) rfl
            have mFu21 := SFm_of cFu21 oz_F4cls_10
            refine Ew_of (pcₚ := 109) (fun _ => x_iinc (len := 3) rfl (lc89_6)) ?_
            refine Ew_of (pcₚ := 18) (fun _ => x_goto rfl rfl) ?_
            have : DCJ (ub8 ((w1))) GG ((a2)) ((a3)) ((u0_3)) ((a4)) AA (((x18_6 + 1))) (((y18_5_2 - z20))) ((wc89_4)) ((yc89_2_1)) ((n4)) := by have h := k89; rw [show ql = ((y18_5_2 - z20)) by omega] at h; exact h
            exact ih18 _ (by omega) _ _ _ _ ((x18_6 + 1)) (rk_o (lc89_0) rfl rfl) (rk_o (lc89_4) rfl rfl) (rk_o (lc89_5) rfl rfl) (rk_s) H O (SF_upd (SF_trans (SF_trans (hS_18) (SF_gluc (ι := oz_F4clsl_6) oz_F4cls_12 hS17 eF17 (by decide +kernel)) (any_sub (lₚ := []) (by decide +kernel))) hS_c89 (any_sub (by decide +kernel))) rfl) (SA_trans (SA_trans (hA_18) (SA_gluc (ι := oz_F4clsl_6) oz_F4cls_12 hA17 eA17 (by decide +kernel)) (any_subA (lₚ := []) (by decide +kernel))) hA_c89 (any_subA (by decide +kernel)))   (yc89_2_1) ((eyc89_2_1)) ((y18_5_2 - z20)) (rfl) (wc89_4) (ewc89_4) (show inr ((x18_6 + 1)) by omega) (show (0) ≤ ((x18_6 + 1)) from q_14 j18_1) (show ((x18_6 + 1)) ≤ (0) ∨ ((x18_6 + 1)) ≤ ((a4)) from q_13 b15) (show 0 ≤ (yc89_2_1) ∧ (yc89_2_1) ≤ (n4) ∧ (n4) ≤ 65536 from jc89_0) (show (u2_1) ≤ (yc89_2_1) from jc89_1) (show -11 ≤ ((y18_5_2 - z20)) ∧ ((y18_5_2 - z20)) ≤ 8 * ((n1) - (y8_0_1)) by omega) (show (y8_0_1) = (a2) from j18_6) (show DCJ (ub8 ((w1))) GG ((a2)) ((a3)) ((u0_3)) ((a4)) AA (((x18_6 + 1))) (((y18_5_2 - z20))) ((wc89_4)) ((yc89_2_1)) ((n4)) by assumption) rfl
          refine Ew_of (pcₚ := 56) (fun _ => x_aload rfl (rk_o (l18_5) rfl rfl)) ?_
          refine v_g H (o := 2) (v := I (y18_2_1)) rfl rfl rfl rfl rfl (congrArg (fun z : Int => I z) ((((show F17 2 1 = F_18 2 1 from (eF17 2 1))).trans (ey18_2_1)) : F17 2 1 = y18_2_1)) ?_
          refine Ew_of (pcₚ := 61) (fun _ => x_aload rfl (rk_o (l18_5) rfl rfl)) ?_
          refine v_g H (o := 2) (v := .ref (D 4)) rfl rfl rfl rfl rfl (vrf ((mF17 2 0 rfl).trans (pf4))) ?_
          refine v_len H (o := 4) rfl rfl rfl rfl (n := n4) (en4) ?_
          refine w_icmpge (t := 89) rfl rfl (show inr (y18_2_1) from q_38 j18_3) (show inr (n4) from q_2934 j18_3 r5) (fun b22 => ?_) (fun b22 => ?_)
          · have : DCJ (ub8 ((w1))) GG ((a2)) ((a3)) ((u0_3)) ((a4)) AA ((x18_6) + 1) ((y18_5_2) - (v18) / 256) ((w18_4)) ((y18_2_1)) ((n4)) := by exact DCJ_s (v := (0 : Int)) j18_j (by omega) (by omega) hpk hcx.1 hcx.2 rfl (.inr ⟨by omega, rfl, rfl⟩) rfl
            exact hc89  _ _ _ _  (rk_o (l18_0) rfl rfl) (rk_o (l18_4) rfl rfl) (rk_o (l18_5) rfl rfl) (rk_o (l18_6) rfl rfl) (rk_s) H O (SF_refl) (SA_refl)   (y18_2_1) ((((show F17 2 1 = F_18 2 1 from (eF17 2 1))).trans (ey18_2_1))) (w18_4) (((show A17 4 = A_18 4 from (eA17 4))).trans (ew18_4)) (show 0 ≤ (y18_2_1) ∧ (y18_2_1) ≤ (n4) ∧ (n4) ≤ 65536 from j18_3) (show (u2_1) ≤ (y18_2_1) from j18_4) (show DCJ (ub8 ((w1))) GG ((a2)) ((a3)) ((u0_3)) ((a4)) AA ((x18_6) + 1) ((y18_5_2) - (v18) / 256) ((w18_4)) ((y18_2_1)) ((n4)) by assumption)
          · refine Ew_of (pcₚ := 70) (fun _ => x_aload rfl (rk_o (l18_5) rfl rfl)) ?_
            refine v_g H (o := 2) (v := .ref (D 4)) rfl rfl rfl rfl rfl (vrf ((mF17 2 0 rfl).trans (pf4))) ?_
            refine Ew_of (pcₚ := 75) (fun _ => x_aload rfl (rk_o (l18_5) rfl rfl)) ?_
            refine Ew_of (pcₚ := 76) (fun _ => x_dup rfl rfl) ?_
            refine v_g H (o := 2) (v := I (y18_2_1)) rfl rfl rfl rfl rfl (congrArg (fun z : Int => I z) ((((show F17 2 1 = F_18 2 1 from (eF17 2 1))).trans (ey18_2_1)) : F17 2 1 = y18_2_1)) ?_
            refine Ew_of (pcₚ := 80) (fun _ => x_dup_x1 rfl rfl) ?_
            refine Ew_of (pcₚ := 81) (fun _ => x_iconst rfl) ?_
            refine w_iadd rfl ?_
            refine v_p H (o := 2) (z := (y18_2_1 + 1)) (v := I ((y18_2_1 + 1))) rfl rfl rfl rfl rfl rfl rfl rfl (show (-2147483648 : Int) ≤ (y18_2_1 + 1) ∧ (y18_2_1 + 1) ≤ 2147483647 from q_40 b22 j18_3) (fun σ H Oₚ => ?_)
            have O := OUT_trans O Oₚ
            have cFu23 : SF oz_F4clsl_4 F (updF F17 2 1 ((y18_2_1 + 1))) := SF_upd (cF17) rfl
            have mFu23 := SFm_of cFu23 oz_F4cls_10
            refine Ew_of (pcₚ := 87) (fun _ => x_iload rfl rk_s) ?_
            refine v_i2b rfl (fun z24 gz24 uz24 => ?_)
            have hub := uz24
            refine v_sB H (o := 4) rfl rfl rfl rfl (n := n4) (en4) (show 0 ≤ y18_2_1 ∧ y18_2_1 < n4 from q_41 b22 j18_3) (fun z25 σ qz25 uz25 H Oₚ => ?_)
            have O := OUT_trans O Oₚ
            have cAu26 : SA oz_F4clsl_5 A (updA A17 4 (y18_2_1) (z25)) := SA_upd (cA17) rfl
            have mAu26 := SAm_of cAu26 oz_F4cls_11
            have : DCJ (ub8 ((w1))) GG ((a2)) ((a3)) ((u0_3)) ((a4)) AA ((x18_6) + 1) ((y18_5_2) - (v18) / 256) ((upd1 (w18_4) (y18_2_1) (z25))) (((y18_2_1 + 1))) ((n4)) := by first | exact DCJ_s (v := (0 : Int)) j18_j (by omega) (by omega) hpk hcx.1 hcx.2 rfl (.inr ⟨by omega, rfl, rfl⟩) rfl | exact DCJ_s j18_j (by omega) (by omega) hpk hcx.1 hcx.2 rfl (.inl ⟨by omega, (uz25).trans hub, rfl, rfl⟩) rfl | exact DCJ_s j18_j (by omega) (by omega) hpk hcx.1 hcx.2 rfl (.inl ⟨by omega, hub, rfl, rfl⟩) rfl
            exact hc89  _ _ _ _  (rk_o (l18_0) rfl rfl) (rk_o (l18_4) rfl rfl) (rk_o (l18_5) rfl rfl) (rk_o (l18_6) rfl rfl) (rk_s) H O (SF_upd (SF_refl) rfl) (SA_upd (SA_refl) rfl)   ((y18_2_1 + 1)) (rfl) (upd1 (w18_4) (y18_2_1) (z25)) (congrArg (fun q => upd1 q (y18_2_1) (z25)) (((show A17 4 = A_18 4 from (eA17 4))).trans (ew18_4))) (show 0 ≤ ((y18_2_1 + 1)) ∧ ((y18_2_1 + 1)) ≤ (n4) ∧ (n4) ≤ 65536 from q_42 b22 j18_3) (show (u2_1) ≤ ((y18_2_1 + 1)) from q_161 j18_4) (show DCJ (ub8 ((w1))) GG ((a2)) ((a3)) ((u0_3)) ((a4)) AA ((x18_6) + 1) ((y18_5_2) - (v18) / 256) ((upd1 (w18_4) (y18_2_1) (z25))) (((y18_2_1 + 1))) ((n4)) by assumption)
  · refine Ew_of (pcₚ := 14) (fun _ => x_iconst rfl) ?_
    have : DCB (ub8 ((w1))) GG ((a2)) ((a3)) ((u0_3)) ((a4)) AA ((0)) ((w4)) ((u2_1)) ((n4)) := DCB_n hop (by omega) (by omega)
    exact w_ireturn rfl (k (0) _ _ _ H O (cF8) (cA8) (u2_1) ((((show F8 2 1 = F 2 1 from (eF8 2 1))).trans (eu2_1))) (w4) (((show A8 4 = A 4 from (eA8 4))).trans (ew4)) (show (0) = 0 ∨ (0) = 1 by first | exact q_45 | omega) (show 0 ≤ (u2_1) ∧ (u2_1) ≤ (n4) ∧ (n4) ≤ 65536 from h7) (show (u2_1) ≤ (u2_1) from q_43) (show DCB (ub8 ((w1))) GG (a2) (a3) ((u0_3)) (a4) AA ((0)) ((w4)) ((u2_1)) ((n4)) by assumption))
abbrev V112_Br : vV := [(0, 3, [(4, 0), (4, 0), (4, 0), (0, 0), (4, 0), (4, 0), (4, 0), (4, 0), (4, 0), (4, 0), (4, 0), (4, 0), (4, 0), (0, 0), (0, 0), (0, 0), (0, 0)]), (1, 0, []), (1, 1, [])]
theorem len_V112_Br_oz_F4cls : (V112_Br).length = 3 := by decide +kernel
def oz_F4clsl_7 : List (Nat × Nat) := []
theorem oz_F4cls_14 : (oz_F4clsl_7).all (fun p => !tbz 0 (Nat.add (Nat.mul 32 p.1) p.2)) = true := by decide +kernel
def oz_F4clsl_8 : List Nat := []
theorem oz_F4cls_15 : (oz_F4clsl_8).all (fun p => !tbz 0 p) = true := by decide +kernel

theorem C112_Br {σE : rS} {D N : Nat → Nat} {F : hF} {A : hA} {d c s : Nat} {Q : wQ} (H : HW V112_Br σE D N F A) {a2 a3 : Int} (pf2 : F 0 0 = (D 2 : Int)) (n1 : Int) (en1 : (N 1 : Int) = n1) (n2 : Int) (en2 : (N 2 : Int) = n2) (u0_3 : Int) (eu0_3 : F 0 3 = u0_3) (w1 : Int → Int) (ew1 : A 1 = w1) (w2 : Int → Int) (ew2 : A 2 = w2) (h0 : inr (a2)) (h1 : inr (a3)) (h2 : 0 ≤ (a2) ∧ (a2) ≤ (a3) ∧ (a3) ≤ (n1) ∧ (n1) ≤ 65536) (h3 : 0 ≤ ((u0_3)) ∧ ((u0_3)) ≤ 11) (h4 : LNG ((w2)) ((u0_3))) (h5 : (n2) = 256) (k : ∀ (z : Int) (σ : rS) (Fₚ : hF) (Aₚ : hA), HW V112_Br σ D N Fₚ Aₚ → OUT (V112_Br).length D N σE c s D N σ c s → SF [] F Fₚ → SA [] A Aₚ → (inr (z)) → (0 ≤ (z) ∧ (z) ≤ 100000) → (PSZ ((w2)) (ub8 ((w1))) ((a2)) ((a3)) ((z))) → Q (some (I z)) σ c s) : Ew 112 (d + 0) 0 (rargs 0 [.ref (D 0), .ref (D 1), I a2, I a3]) [] σE c s Q := by
  have O := OUT_refl (n := (V112_Br).length) (D := D) (N := N) (σ := σE) (c := c) (s := s)
  have HE := H
  have r1 : (-2147483648 : Int) ≤ u0_3 ∧ u0_3 ≤ 2147483647 := rngE (show (-2147483648 : Int) ≤ F 0 3 ∧ F 0 3 ≤ 2147483647 from H.krg 0 3 (ltn len_V112_Br_oz_F4cls rfl)) (show F 0 3 = u0_3 from (eu0_3))
  have r2 : (0 : Int) ≤ n1 ∧ n1 ≤ 1000000 := nleE (H.nle 1 (ltn len_V112_Br_oz_F4cls rfl)) (show (N 1 : Int) = n1 from en1)
  have r3 : (0 : Int) ≤ n2 ∧ n2 ≤ 1000000 := nleE (H.nle 2 (ltn len_V112_Br_oz_F4cls rfl)) (show (N 2 : Int) = n2 from en2)
  have hln : LNG ((w2)) ((u0_3)) := h4
  refine Ew_of (pcₚ := 1) (fun _ => x_iconst rfl) ?_
  refine Ew_of (pcₚ := 3) (fun _ => x_istore rfl) ?_
  refine Ew_of (pcₚ := 4) (fun _ => x_iload_n rfl (rk_o (rfl) rfl rfl)) ?_
  refine Ew_of (pcₚ := 6) (fun _ => x_istore rfl) ?_
  have : (0 : Int) = szF ((w2)) (ub8 ((w1))) ((a2)) ((a2) - (a2) : Int).toNat := (szF_0 (by omega)).symm
  have : ∀ k, (a2) ≤ k → k < (a2) → ((w2)) ((ub8 ((w1))) k) ≠ 0 := fun k a b => absurd b (by omega)
  suffices hl6 : ∀ (m : Nat), ∀ (ls : rO) (σ : rS) (F_6 : hF) (A_6 : hA) (x6_4 : Int) (x6_5 : Int), rlook ls 0 = some (.ref (D 0)) → rlook ls 1 = some (.ref (D 1)) → rlook ls 3 = some (I (a3)) → rlook ls 4 = some (I (x6_4)) → rlook ls 5 = some (I (x6_5)) → HW V112_Br σ D N F_6 A_6 → OUT (V112_Br).length D N σE c s D N σ c s → SF [] F F_6 → SA [] A A_6 → (inr (x6_4)) → (inr (x6_5)) → ((a2) ≤ (x6_5)) → ((x6_5) ≤ (a2) ∨ (x6_5) ≤ ((a3))) → (0 ≤ (x6_4) ∧ (x6_4) ≤ 11 * ((x6_5) - (a2))) → ((x6_4) = szF ((w2)) (ub8 ((w1))) ((a2)) ((x6_5) - (a2) : Int).toNat) → (∀ k, (a2) ≤ k → k < (x6_5) → ((w2)) ((ub8 ((w1))) k) ≠ 0) → (((a3)) - (x6_5)).toNat = m → Ew 112 (d + 0) 6 ls [] σ c s Q from
    hl6 _ _ _ _ _ (0) (a2) (rk_o (rk_o (rfl) rfl rfl) rfl rfl) (rk_o (rk_o (rfl) rfl rfl) rfl rfl) (rk_o (rk_o (rfl) rfl rfl) rfl rfl) (rk_o (rk_s) rfl rfl) (rk_s) H O (SF_refl) (SA_refl)     (show inr (0) from q_2) (show inr (a2) from h0) (show (a2) ≤ (a2) from q_43) (show (a2) ≤ (a2) ∨ (a2) ≤ ((a3)) from q_156) (show 0 ≤ (0) ∧ (0) ≤ 11 * ((a2) - (a2)) from q_3748) (show (0) = szF ((w2)) (ub8 ((w1))) ((a2)) ((a2) - (a2) : Int).toNat by assumption) (show ∀ k, (a2) ≤ k → k < (a2) → ((w2)) ((ub8 ((w1))) k) ≠ 0 by assumption) rfl
  as_aux_lemma =>
  intro m
  induction m using Nat.strongRecOn with
  | _ m ih6 =>
    intro ls σ F_6 A_6 x6_4 x6_5 l6_0 l6_1 l6_3 l6_4 l6_5 H O hS_6 hA_6     j6_0 j6_1 j6_2 j6_3 j6_4 j6_5 j6_6 hm6
    have cF_6 : SF oz_F4clsl_7 F F_6 := SF_trans (SF_refl) hS_6 (any_sub (by decide +kernel))
    have mF_6 := SFm_of cF_6 oz_F4cls_14
    have cA_6 : SA oz_F4clsl_8 A A_6 := SA_trans (SA_refl) hA_6 (any_subA (by decide +kernel))
    have mA_6 := SAm_of cA_6 oz_F4cls_15
    have j6_s : (x6_4) = szF ((w2)) (ub8 ((w1))) ((a2)) ((x6_5) - (a2) : Int).toNat := by assumption
    have j6_c : ∀ k, (a2) ≤ k → k < (x6_5) → ((w2)) ((ub8 ((w1))) k) ≠ 0 := by assumption
    refine Ew_of (pcₚ := 8) (fun _ => x_iload rfl l6_5) ?_
    refine Ew_of (pcₚ := 9) (fun _ => x_iload_n rfl l6_3) ?_
    refine w_icmpge (t := 47) rfl rfl (show inr (x6_5) from j6_1) (show inr (a3) from h1) (fun b4 => ?_) (fun b4 => ?_)
    · refine Ew_of (pcₚ := 49) (fun _ => x_iload rfl l6_4) ?_
      refine Ew_of (pcₚ := 51) (fun _ => x_bipush (z := 8) rfl (by decide)) ?_
      refine w_idiv rfl (show inr (x6_4) ∧ 0 ≤ x6_4 from q_3749 j6_0 j6_4) (show inr (8) ∧ 0 < 8 from q_1054) ?_
      refine Ew_of (pcₚ := 53) (fun _ => x_iconst rfl) ?_
      refine w_iadd rfl ?_
      have : PSZ ((w2)) (ub8 ((w1))) ((a2)) ((a3)) ((((x6_4 / 8) + 1))) := .inr ⟨by rw [show ((a3) : Int) = (x6_5) by omega, ← j6_s], fun k a b => j6_c k a (by omega)⟩
      exact w_ireturn rfl (k (((x6_4 / 8) + 1)) _ _ _ H O (cF_6) (cA_6) (show inr (((x6_4 / 8) + 1)) from q_3750 j6_0 j6_4) (show 0 ≤ (((x6_4 / 8) + 1)) ∧ (((x6_4 / 8) + 1)) ≤ 100000 by omega) (show PSZ ((w2)) (ub8 ((w1))) (a2) (a3) ((((x6_4 / 8) + 1))) by assumption))
    · obtain ⟨ql5, hql5⟩ : ∃ q : Int, q = (x6_5) := ⟨_, rfl⟩
      refine Ew_of (pcₚ := 13) (fun _ => x_aload_n rfl l6_0) ?_
      refine v_g H (o := 0) (v := .ref (D 2)) rfl rfl rfl rfl rfl (vrf ((mF_6 0 0 rfl).trans (pf2))) ?_
      refine Ew_of (pcₚ := 17) (fun _ => x_aload_n rfl l6_1) ?_
      refine Ew_of (pcₚ := 19) (fun _ => x_iload rfl l6_5) ?_
      refine v_lB H (o := 1) rfl rfl rfl rfl (n := n1) (en1) (show 0 ≤ x6_5 ∧ x6_5 < n1 from q_3751 b4 h2 j6_4) (fun v5 ev5 qv5 => ?_)
      have ev5 : (w1) (x6_5) = v5 := (congrFun ((funext (mA_6 1 rfl)).trans (ew1)) (x6_5)).symm.trans ev5
      have he20 := ev5
      refine Ew_of (pcₚ := 23) (fun _ => x_sipush (z := 255) rfl (by decide)) ?_
      refine v_and255 rfl ?_
      have hlb := hln (((v5 % 256))) (by omega) (by omega)
      have hu24 : (ub8 ((w1))) ql5 = ((v5 % 256)) := by rw [hql5]; show u8 (((w1)) ((x6_5))) = ((v5 % 256)); rw [he20]; unfold u8; omega
      refine v_lI H (o := 2) rfl rfl rfl rfl (n := n2) (en2) (show 0 ≤ (v5 % 256) ∧ (v5 % 256) < n2 from q_3752 h5) (fun v6 ev6 qv6 => ?_)
      have ev6 : (w2) ((v5 % 256)) = v6 := (congrFun ((funext (mA_6 2 rfl)).trans (ew2)) ((v5 % 256))).symm.trans ev6
      rw [ev6] at hlb
      have hv25 : ((w2)) ((ub8 ((w1))) ql5) = (v6) := by rw [hu24]; exact ev6
      refine Ew_of (pcₚ := 27) (fun _ => x_istore rfl) ?_
      refine Ew_of (pcₚ := 29) (fun _ => x_iload rfl rk_s) ?_
      refine w_ifne (t := 34) rfl rfl (show inr (v6) from qv6) (fun b7 => ?_) (fun b7 => ?_)
      · refine Ew_of (pcₚ := 36) (fun _ => x_iload rfl (rk_o (l6_4) rfl rfl)) ?_
        refine Ew_of (pcₚ := 38) (fun _ => x_iload rfl rk_s) ?_
        refine w_iadd rfl ?_
        refine Ew_of (pcₚ := 41) (fun _ => x_istore rfl) ?_
        refine Ew_of (pcₚ := 44) (fun _ => x_iinc (len := 3) rfl (rk_o (rk_o (l6_5) rfl rfl) rfl rfl)) ?_
        refine Ew_of (pcₚ := 6) (fun _ => x_goto rfl rfl) ?_
        have : ((x6_4 + v6)) = szF ((w2)) (ub8 ((w1))) ((a2)) (((x6_5 + 1)) - (a2) : Int).toNat := by rw [szF_s (n := ql5 - (a2)) (i := ql5) (by omega) (by omega) (by omega) hv25, hql5, ← j6_s]
        have : ∀ k, (a2) ≤ k → k < ((x6_5 + 1)) → ((w2)) ((ub8 ((w1))) k) ≠ 0 := fun k a b => by by_cases q : k = ql5; (rw [q, hv25]; omega); exact j6_c k a (by omega)
        exact ih6 _ (msE hm6 q_16 (q_17 b4)) _ _ _ _ ((x6_4 + v6)) ((x6_5 + 1)) (rk_o (rk_o (rk_o (l6_0) rfl rfl) rfl rfl) rfl rfl) (rk_o (rk_o (rk_o (l6_1) rfl rfl) rfl rfl) rfl rfl) (rk_o (rk_o (rk_o (l6_3) rfl rfl) rfl rfl) rfl rfl) (rk_o (rk_s) rfl rfl) (rk_s) H O (hS_6) (hA_6)     (show inr ((x6_4 + v6)) by omega) (show inr ((x6_5 + 1)) from q_3094 b4 h2 j6_1) (show (a2) ≤ ((x6_5 + 1)) from q_3753 j6_4) (show ((x6_5 + 1)) ≤ (a2) ∨ ((x6_5 + 1)) ≤ ((a3)) from q_160 b4) (show 0 ≤ ((x6_4 + v6)) ∧ ((x6_4 + v6)) ≤ 11 * (((x6_5 + 1)) - (a2)) by omega) (show ((x6_4 + v6)) = szF ((w2)) (ub8 ((w1))) ((a2)) (((x6_5 + 1)) - (a2) : Int).toNat by assumption) (show ∀ k, (a2) ≤ k → k < ((x6_5 + 1)) → ((w2)) ((ub8 ((w1))) k) ≠ 0 by assumption) rfl
      · refine Ew_of (pcₚ := 33) (fun _ => x_iconst rfl) ?_
        have : PSZ ((w2)) (ub8 ((w1))) ((a2)) ((a3)) 0 := .inl ⟨rfl, ql5, by omega, by omega, by rw [hv25]; omega⟩
        exact w_ireturn rfl (k (0) _ _ _ H O (cF_6) (cA_6) (show inr (0) from q_2) (show 0 ≤ (0) ∧ (0) ≤ 100000 by first | exact q_3754 | omega) (show PSZ ((w2)) (ub8 ((w1))) (a2) (a3) ((0)) by assumption))
abbrev V111_Row_Br : vV := [(0, 3, [(4, 0), (4, 0), (4, 0), (0, 0), (4, 0), (4, 0), (4, 0), (4, 0), (4, 0), (4, 0), (4, 0), (4, 0), (4, 0), (0, 0), (0, 0), (0, 0), (0, 0)]), (0, 7, [(4, 0), (0, 0), (1, 0), (0, 0), (0, 0)]), (1, 0, []), (1, 0, []), (1, 1, []), (1, 1, []), (1, 1, [])]
theorem len_V111_Row_Br_oz_F4cls : (V111_Row_Br).length = 7 := by decide +kernel
theorem oz_F4cls_17 : vsub V111_Row_Br V157 [1, 3] = true := by decide +kernel
theorem oz_F4cls_18 : vmov V111_Row_Br [1, 3] [1] = true := by decide +kernel
theorem oz_F4cls_19 : vsub V111_Row_Br V164 [1, 3] = true := by decide +kernel
theorem oz_F4cls_20 : vsub V111_Row_Br V165 [1, 3] = true := by decide +kernel
def oz_F4clsl_9 : List (Nat × Nat) := [(1, 0), (1, 1), (1, 2), (1, 3), (1, 4)]
theorem oz_F4cls_21 : (oz_F4clsl_9).all (fun p => !tbz 133143986176 (Nat.add (Nat.mul 32 p.1) p.2)) = true := by decide +kernel
def oz_F4clsl_10 : List Nat := [3]
theorem oz_F4cls_22 : (oz_F4clsl_10).all (fun p => !tbz 8 p) = true := by decide +kernel
def oz_F4clsl_11 : List Nat := [1, 3]
theorem oz_F4cls_23 : okc oz_F4clsl_11 1537 = true := by decide +kernel

theorem C111_Row_Br {σE : rS} {D N : Nat → Nat} {F : hF} {A : hA} {d c s : Nat} {Q : wQ} (H : HW V111_Row_Br σE D N F A) {a3 a4 : Int} (pf3 : F 1 0 = (D 3 : Int)) (pf4 : F 0 0 = (D 4 : Int)) (pf5 : F 0 1 = (D 5 : Int)) (pf6 : F 0 2 = (D 6 : Int)) (n2 : Int) (en2 : (N 2 : Int) = n2) (n3 : Int) (en3 : (N 3 : Int) = n3) (n4 : Int) (en4 : (N 4 : Int) = n4) (n5 : Int) (en5 : (N 5 : Int) = n5) (n6 : Int) (en6 : (N 6 : Int) = n6) (u0_3 : Int) (eu0_3 : F 0 3 = u0_3) (u1_1 : Int) (eu1_1 : F 1 1 = u1_1) (u1_2 : Int) (eu1_2 : F 1 2 = u1_2) (u1_3 : Int) (eu1_3 : F 1 3 = u1_3) (u1_4 : Int) (eu1_4 : F 1 4 = u1_4) (w2 : Int → Int) (ew2 : A 2 = w2) (w3 : Int → Int) (ew3 : A 3 = w3) (w4 : Int → Int) (ew4 : A 4 = w4) (w5 : Int → Int) (ew5 : A 5 = w5) (w6 : Int → Int) (ew6 : A 6 = w6) (h0 : inr (a3)) (h1 : inr (a4)) (h2 : 0 ≤ (u1_1) ∧ (u1_1) ≤ (n3) ∧ (n3) ≤ 65536) (h3 : 0 ≤ (u1_4) ∧ (u1_4) ≤ 7) (h4 : 0 ≤ (a3) ∧ (a3) ≤ (a4) ∧ (a4) ≤ (n2) ∧ (n2) ≤ 65536) (h5 : 0 ≤ ((u0_3)) ∧ ((u0_3)) ≤ 11) (h6 : LNG ((w4)) ((u0_3))) (h7 : (n4) = 256 ∧ (n5) = 256) (h8 : (u1_4) = 0 ∧ (u1_3) = 0 ∧ (u1_2) = 0 ∧ (u1_1) + 2 * ((a4) - (a3)) + 2 ≤ 65536) (h9 : CI ((w4)) ((u0_3))) (h10 : CDX ((w4)) ((u0_3)) ((w6)) ((w5))) (h11 : ∀ k, (a3) ≤ k → k < (a4) → ((w4)) ((ub8 ((w2))) k) ≠ 0) (k : ∀ (σ : rS) (Dₚ Nₚ : Nat → Nat) (Fₚ : hF) (Aₚ : hA) (cₚ sₚ : Nat), HW V111_Row_Br σ Dₚ Nₚ Fₚ Aₚ → OUT (V111_Row_Br).length D N σE c s Dₚ Nₚ σ cₚ sₚ → SD [3] D Dₚ → SD [3] N Nₚ → SF [(1, 0), (1, 1), (1, 2), (1, 3), (1, 4)] F Fₚ → SA [3] A Aₚ → Fₚ 1 0 = (Dₚ 3 : Int) → ∀ m3 : Int, (Nₚ 3 : Int) = m3 → ∀ y1_1 : Int, Fₚ 1 1 = y1_1 → ∀ y1_2 : Int, Fₚ 1 2 = y1_2 → ∀ y1_3 : Int, Fₚ 1 3 = y1_3 → ∀ y1_4 : Int, Fₚ 1 4 = y1_4 → ∀ v3 : Int → Int, Aₚ 3 = v3 → (0 ≤ (y1_1) ∧ (y1_1) ≤ (m3) ∧ (m3) ≤ 65536) → ((y1_4) = 0) → ((u1_1) ≤ (y1_1)) → ((y1_3) = 0 ∧ (y1_2) = 0) → (sc ((v3)) 0 ((y1_1)) = sc ((w3)) 0 ((u1_1)) ++ byw (stm ((w4)) ((u0_3)) (ub8 ((w2))) ((a3)) ((a4)))) → (8 * (y1_1) ≤ 8 * (u1_1) + 11 * ((a4) - (a3)) + 16) → Q none σ cₚ sₚ) : Ew 111 (d + 2) 0 (rargs 0 [.ref (D 0), .ref (D 1), .ref (D 2), I a3, I a4]) [] σE c s Q := by
  have O := OUT_refl (n := (V111_Row_Br).length) (D := D) (N := N) (σ := σE) (c := c) (s := s)
  have HE := H
  have r1 : (-2147483648 : Int) ≤ u0_3 ∧ u0_3 ≤ 2147483647 := rngE (show (-2147483648 : Int) ≤ F 0 3 ∧ F 0 3 ≤ 2147483647 from H.krg 0 3 (ltn len_V111_Row_Br_oz_F4cls rfl)) (show F 0 3 = u0_3 from (eu0_3))
  have r2 : (-2147483648 : Int) ≤ u1_1 ∧ u1_1 ≤ 2147483647 := rngE (show (-2147483648 : Int) ≤ F 1 1 ∧ F 1 1 ≤ 2147483647 from H.krg 1 1 (ltn len_V111_Row_Br_oz_F4cls rfl)) (show F 1 1 = u1_1 from (eu1_1))
  have r3 : (0 : Int) ≤ u1_2 ∧ u1_2 ≤ 1 := rngE (show (0 : Int) ≤ F 1 2 ∧ F 1 2 ≤ 1 from H.krg 1 2 (ltn len_V111_Row_Br_oz_F4cls rfl)) (show F 1 2 = u1_2 from (eu1_2))
  have r4 : (-2147483648 : Int) ≤ u1_3 ∧ u1_3 ≤ 2147483647 := rngE (show (-2147483648 : Int) ≤ F 1 3 ∧ F 1 3 ≤ 2147483647 from H.krg 1 3 (ltn len_V111_Row_Br_oz_F4cls rfl)) (show F 1 3 = u1_3 from (eu1_3))
  have r5 : (-2147483648 : Int) ≤ u1_4 ∧ u1_4 ≤ 2147483647 := rngE (show (-2147483648 : Int) ≤ F 1 4 ∧ F 1 4 ≤ 2147483647 from H.krg 1 4 (ltn len_V111_Row_Br_oz_F4cls rfl)) (show F 1 4 = u1_4 from (eu1_4))
  have r6 : (0 : Int) ≤ n2 ∧ n2 ≤ 1000000 := nleE (H.nle 2 (ltn len_V111_Row_Br_oz_F4cls rfl)) (show (N 2 : Int) = n2 from en2)
  have r7 : (0 : Int) ≤ n3 ∧ n3 ≤ 1000000 := nleE (H.nle 3 (ltn len_V111_Row_Br_oz_F4cls rfl)) (show (N 3 : Int) = n3 from en3)
  have r8 : (0 : Int) ≤ n4 ∧ n4 ≤ 1000000 := nleE (H.nle 4 (ltn len_V111_Row_Br_oz_F4cls rfl)) (show (N 4 : Int) = n4 from en4)
  have r9 : (0 : Int) ≤ n5 ∧ n5 ≤ 1000000 := nleE (H.nle 5 (ltn len_V111_Row_Br_oz_F4cls rfl)) (show (N 5 : Int) = n5 from en5)
  have r10 : (0 : Int) ≤ n6 ∧ n6 ≤ 1000000 := nleE (H.nle 6 (ltn len_V111_Row_Br_oz_F4cls rfl)) (show (N 6 : Int) = n6 from en6)
  have hln : LNG ((w4)) ((u0_3)) := h6
  have hci : CI ((w4)) ((u0_3)) := h9
  have hcd : CDX ((w4)) ((u0_3)) ((w6)) ((w5)) := h10
  have hco : ∀ k, (a3) ≤ k → k < (a4) → ((w4)) ((ub8 ((w2))) k) ≠ 0 := h11
  refine Ew_of (pcₚ := 1) (fun _ => x_aload_n rfl rfl) ?_
  refine Ew_of (pcₚ := 2) (fun _ => x_iconst rfl) ?_
  refine Ew_of (pcₚ := 4) (fun _ => x_iload rfl rfl) ?_
  refine Ew_of (pcₚ := 5) (fun _ => x_iload_n rfl rfl) ?_
  refine w_isub rfl ?_
  refine w_imul rfl ?_
  refine Ew_of (pcₚ := 8) (fun _ => x_iconst rfl) ?_
  refine w_iadd rfl ?_
  refine v_inv H (o := 1) rfl rfl rfl rfl rfl rfl (by rfl) (C157 (D := puc 1537 D) (N := puc 1537 N) (HW_subc H oz_F4cls_17 oz_F4cls_23) (pf3) (n3) (en3) (u1_1) ((eu1_1)) (w3) (ew3) (show inr (((2 * (a4 - a3)) + 2)) from q_3755 h4) (show 0 ≤ (u1_1) ∧ (u1_1) ≤ (n3) ∧ (n3) ≤ 65536 from h2) (fun z11 σ11 D11ₚ N11ₚ F11ₚ A11ₚ c11 s11 Hₚ Oₚ hD11 hN11 hS11 hA11 pm11_1 m11_1 em11_1 w11_1 ew11_1 pz11_0 pz11_1 pz11_2 pz11_3 pz11_4 => ⟨rretB rfl pz11_0, ?_⟩))
  refine v_backMc (c := c) (s := s) H oz_F4cls_17 oz_F4cls_23 Hₚ Oₚ hD11 oz_F4cls_18 (fun D11 N11 F11 A11 H Oₚ eD11 eN11 eF11 eA11 => ?_)
  have O := OUT_trans O Oₚ
  -- Row.reserve
  have cF11 : SF oz_F4clsl_9 F F11 := SF_trans (SF_refl) (SF_gluc (ι := oz_F4clsl_11) oz_F4cls_23 hS11 eF11 (by decide +kernel)) (any_sub (lₚ := [(1, 0)]) (by decide +kernel))
  have mF11 := SFm_of cF11 oz_F4cls_21
  have cA11 : SA oz_F4clsl_10 A A11 := SA_trans (SA_refl) (SA_gluc (ι := oz_F4clsl_11) oz_F4cls_23 hA11 eA11 (by decide +kernel)) (any_subA (lₚ := [3]) (by decide +kernel))
  have mA11 := SAm_of cA11 oz_F4cls_22
  have cD11 : SD oz_F4clsl_10 D D11 := SD_trans (SD_refl) (SD_gluc (ι := oz_F4clsl_11) oz_F4cls_23 hD11 eD11 (by decide +kernel)) (any_subA (lₚ := [3]) (by decide +kernel))
  have mD11 := SDm_of cD11 oz_F4cls_22
  have cN11 : SD oz_F4clsl_10 N N11 := SD_trans (SD_refl) (SD_gluc (ι := oz_F4clsl_11) oz_F4cls_23 hN11 eN11 (by decide +kernel)) (any_subA (lₚ := [3]) (by decide +kernel))
  have mN11 := SDm_of cN11 oz_F4cls_22
  have pf11_1_0 : F11 1 0 = (D11 3 : Int) := (eF11 1 0).trans (pm11_1.trans (congrArg (fun q : Nat => (q : Int)) (eD11 3).symm))
  have r12 : (0 : Int) ≤ m11_1 ∧ m11_1 ≤ 1000000 := nleE (H.nle 3 (ltn len_V111_Row_Br_oz_F4cls rfl)) (show (N11 3 : Int) = m11_1 from (congrArg (fun q : Nat => (q : Int)) (eN11 3)).trans em11_1)
  have hs12 : sc ((w11_1)) 0 ((u1_1)) = sc ((w3)) 0 ((u1_1)) := sc_same (fun i a b => pz11_4 i a (by omega))
  refine Ew_of (pcₚ := 13) (fun _ => x_pop rfl rfl) ?_
  refine Ew_of (pcₚ := 15) (fun _ => x_iload rfl rfl) ?_
  refine Ew_of (pcₚ := 16) (fun _ => x_iconst rfl) ?_
  refine w_isub rfl ?_
  refine Ew_of (pcₚ := 19) (fun _ => x_istore rfl) ?_
  have : RBB ((u1_2)) ((w11_1)) ((u1_1)) ((u1_3)) ((u1_4)) (sc ((w3)) 0 ((u1_1))) (smB ((w4)) ((u0_3)) (ub8 ((w2))) ((a4)) ((a4) - 1 - ((a4 - 1)) : Int).toNat) := by rw [smB_0 (by omega)]; exact RBB_new (by omega) hs12 (by omega) (by omega)
  have hp0 := p2_pos ((u1_4))
  suffices hl19 : ∀ (m : Nat), ∀ (ls : rO) (σ : rS) (F_19 : hF) (A_19 : hA) (x19_5 : Int), rlook ls 0 = some (.ref (D11 0)) → rlook ls 1 = some (.ref (D11 1)) → rlook ls 2 = some (.ref (D11 2)) → rlook ls 3 = some (I (a3)) → rlook ls 5 = some (I (x19_5)) → HW V111_Row_Br σ D11 N11 F_19 A_19 → OUT (V111_Row_Br).length D N σE c s D11 N11 σ (c + c11) (s + s11) → SF [(1, 1), (1, 2), (1, 3), (1, 4)] F11 F_19 → SA [3] A11 A_19 → ∀ y19_1_1 : Int, F_19 1 1 = y19_1_1 → ∀ y19_1_2 : Int, F_19 1 2 = y19_1_2 → ∀ y19_1_3 : Int, F_19 1 3 = y19_1_3 → ∀ y19_1_4 : Int, F_19 1 4 = y19_1_4 → ∀ w19_3 : Int → Int, A_19 3 = w19_3 → (inr (x19_5)) → ((x19_5) ≤ ((a4 - 1))) → (((a4 - 1)) ≤ (x19_5) ∨ (((a3) - 1)) ≤ (x19_5)) → (0 ≤ (y19_1_1) ∧ (y19_1_1) ≤ (m11_1) ∧ (m11_1) ≤ 65536) → (0 ≤ (y19_1_4) ∧ (y19_1_4) ≤ 7) → ((u1_1) ≤ (y19_1_1)) → ((a3) - 1 ≤ (x19_5)) → (0 ≤ (y19_1_3) ∧ (y19_1_3) < p2 ((y19_1_4))) → (8 * (y19_1_1) + (y19_1_4) ≤ 8 * (u1_1) + 11 * ((a4) - 1 - (x19_5))) → ((u1_1) + 2 * ((a4) - (a3)) + 2 ≤ (m11_1)) → (RBB ((y19_1_2)) ((w19_3)) ((y19_1_1)) ((y19_1_3)) ((y19_1_4)) (sc ((w3)) 0 ((u1_1))) (smB ((w4)) ((u0_3)) (ub8 ((w2))) ((a4)) ((a4) - 1 - (x19_5) : Int).toNat)) → ((x19_5) - (((a3) - 1))).toNat = m → Ew 111 (d + 2) 19 ls [] σ (c + c11) (s + s11) Q from
    hl19 _ _ _ _ _ ((a4 - 1)) ((rk_o (rfl) rfl rfl).trans (congrArg (fun q : Nat => some (Value.ref q)) (mD11 0 rfl).symm)) ((rk_o (rfl) rfl rfl).trans (congrArg (fun q : Nat => some (Value.ref q)) (mD11 1 rfl).symm)) ((rk_o (rfl) rfl rfl).trans (congrArg (fun q : Nat => some (Value.ref q)) (mD11 2 rfl).symm)) (rk_o (rfl) rfl rfl) (rk_s) H O (SF_refl) (SA_refl)   (u1_1) ((((show F11 1 1 = F 1 1 from (eF11 1 1).trans (hS11 0 1 rfl))).trans (eu1_1))) (u1_2) ((((show F11 1 2 = F 1 2 from (eF11 1 2).trans (hS11 0 2 rfl))).trans (eu1_2))) (u1_3) ((((show F11 1 3 = F 1 3 from (eF11 1 3).trans (hS11 0 3 rfl))).trans (eu1_3))) (u1_4) ((((show F11 1 4 = F 1 4 from (eF11 1 4).trans (hS11 0 4 rfl))).trans (eu1_4))) (w11_1) ((eA11 3).trans ew11_1) (show inr ((a4 - 1)) from q_3759 h4) (show ((a4 - 1)) ≤ ((a4 - 1)) from q_419) (show ((a4 - 1)) ≤ ((a4 - 1)) ∨ (((a3) - 1)) ≤ ((a4 - 1)) from q_2201) (show 0 ≤ (u1_1) ∧ (u1_1) ≤ (m11_1) ∧ (m11_1) ≤ 65536 from pz11_1) (show 0 ≤ (u1_4) ∧ (u1_4) ≤ 7 from h3) (show (u1_1) ≤ (u1_1) from q_43) (show (a3) - 1 ≤ ((a4 - 1)) from q_3758 h4) (show 0 ≤ (u1_3) ∧ (u1_3) < p2 ((u1_4)) by omega) (show 8 * (u1_1) + (u1_4) ≤ 8 * (u1_1) + 11 * ((a4) - 1 - ((a4 - 1))) from q_3757 h8) (show (u1_1) + 2 * ((a4) - (a3)) + 2 ≤ (m11_1) from q_3756 h8 pz11_1 pz11_2 r12) (show RBB ((u1_2)) ((w11_1)) ((u1_1)) ((u1_3)) ((u1_4)) (sc ((w3)) 0 ((u1_1))) (smB ((w4)) ((u0_3)) (ub8 ((w2))) ((a4)) ((a4) - 1 - ((a4 - 1)) : Int).toNat) by assumption) rfl
  as_aux_lemma =>
  intro m
  induction m using Nat.strongRecOn with
  | _ m ih19 =>
    intro ls σ F_19 A_19 x19_5 l19_0 l19_1 l19_2 l19_3 l19_5 H O hS_19 hA_19   y19_1_1 ey19_1_1 y19_1_2 ey19_1_2 y19_1_3 ey19_1_3 y19_1_4 ey19_1_4 w19_3 ew19_3 j19_0 j19_1 j19_2 j19_3 j19_4 j19_5 j19_6 j19_7 j19_8 j19_9 j19_10 hm19
    have cF_19 : SF oz_F4clsl_9 F F_19 := SF_trans (cF11) hS_19 (any_sub (by decide +kernel))
    have mF_19 := SFm_of cF_19 oz_F4cls_21
    have cA_19 : SA oz_F4clsl_10 A A_19 := SA_trans (cA11) hA_19 (any_subA (by decide +kernel))
    have mA_19 := SAm_of cA_19 oz_F4cls_22
    have r13 : (-2147483648 : Int) ≤ y19_1_1 ∧ y19_1_1 ≤ 2147483647 := rngE (show (-2147483648 : Int) ≤ F_19 1 1 ∧ F_19 1 1 ≤ 2147483647 from H.krg 1 1 (ltn len_V111_Row_Br_oz_F4cls rfl)) (show F_19 1 1 = y19_1_1 from (ey19_1_1))
    have r14 : (0 : Int) ≤ y19_1_2 ∧ y19_1_2 ≤ 1 := rngE (show (0 : Int) ≤ F_19 1 2 ∧ F_19 1 2 ≤ 1 from H.krg 1 2 (ltn len_V111_Row_Br_oz_F4cls rfl)) (show F_19 1 2 = y19_1_2 from (ey19_1_2))
    have r15 : (-2147483648 : Int) ≤ y19_1_3 ∧ y19_1_3 ≤ 2147483647 := rngE (show (-2147483648 : Int) ≤ F_19 1 3 ∧ F_19 1 3 ≤ 2147483647 from H.krg 1 3 (ltn len_V111_Row_Br_oz_F4cls rfl)) (show F_19 1 3 = y19_1_3 from (ey19_1_3))
    have r16 : (-2147483648 : Int) ≤ y19_1_4 ∧ y19_1_4 ≤ 2147483647 := rngE (show (-2147483648 : Int) ≤ F_19 1 4 ∧ F_19 1 4 ≤ 2147483647 from H.krg 1 4 (ltn len_V111_Row_Br_oz_F4cls rfl)) (show F_19 1 4 = y19_1_4 from (ey19_1_4))
    have j19_w : RBB ((y19_1_2)) ((w19_3)) ((y19_1_1)) ((y19_1_3)) ((y19_1_4)) (sc ((w3)) 0 ((u1_1))) (smB ((w4)) ((u0_3)) (ub8 ((w2))) ((a4)) ((a4) - 1 - (x19_5) : Int).toNat) := by assumption
    refine Ew_of (pcₚ := 21) (fun _ => x_iload rfl l19_5) ?_
    refine Ew_of (pcₚ := 22) (fun _ => x_iload_n rfl l19_3) ?_
    refine w_icmplt (t := 59) rfl rfl (show inr (x19_5) from j19_0) (show inr (a3) from h0) (fun b17 => ?_) (fun b17 => ?_)
    · refine Ew_of (pcₚ := 60) (fun _ => x_aload_n rfl l19_1) ?_
      refine Ew_of (pcₚ := 61) (fun _ => x_iconst rfl) ?_
      refine Ew_of (pcₚ := 62) (fun _ => x_iconst rfl) ?_
      refine v_inv H (o := 1) rfl rfl rfl rfl rfl rfl (by rfl) (C164 (D := puc 1537 D11) (N := puc 1537 N11) (HW_subc H oz_F4cls_19 oz_F4cls_23) (((hS_19 1 0 rfl)).trans (pf11_1_0)) (m11_1) ((congrArg (fun q : Nat => (q : Int)) (eN11 3)).trans em11_1) (y19_1_1) ((ey19_1_1)) (y19_1_2) ((ey19_1_2)) (y19_1_3) ((ey19_1_3)) (y19_1_4) ((ey19_1_4)) (w19_3) (ew19_3) (show inr (1) from q_135) (show inr (1) from q_135) (show 0 ≤ (y19_1_1) ∧ (y19_1_1) ≤ (m11_1) ∧ (m11_1) ≤ 65536 from j19_3) (show 0 ≤ (1) ∧ (1) ≤ 31 from q_2204) (show 0 ≤ (y19_1_4) ∧ (y19_1_4) ≤ 7 from j19_4) (fun σ18 F18ₚ A18ₚ Hₚ Oₚ hS18 hA18 y18_0_1 ey18_0_1 y18_0_2 ey18_0_2 y18_0_3 ey18_0_3 y18_0_4 ey18_0_4 w18_1 ew18_1 pz18_0 pz18_1 pz18_2 pz18_3 => ⟨rfl, ?_⟩))
      refine v_backc (c := (c + c11)) (s := (s + s11)) H oz_F4cls_19 oz_F4cls_23 Hₚ Oₚ (fun F18 A18 H Oₚ eF18 eA18 => ?_)
      have O := OUT_trans O Oₚ
      -- Row.addBits
      have cF18 : SF oz_F4clsl_9 F F18 := SF_trans (cF_19) (SF_gluc (ι := oz_F4clsl_11) oz_F4cls_23 hS18 eF18 (by decide +kernel)) (any_sub (lₚ := [(1, 1), (1, 2), (1, 3), (1, 4)]) (by decide +kernel))
      have mF18 := SFm_of cF18 oz_F4cls_21
      have cA18 : SA oz_F4clsl_10 A A18 := SA_trans (cA_19) (SA_gluc (ι := oz_F4clsl_11) oz_F4cls_23 hA18 eA18 (by decide +kernel)) (any_subA (lₚ := [3]) (by decide +kernel))
      have mA18 := SAm_of cA18 oz_F4cls_22
      have r19 : (-2147483648 : Int) ≤ y18_0_1 ∧ y18_0_1 ≤ 2147483647 := rngE (show (-2147483648 : Int) ≤ F18 1 1 ∧ F18 1 1 ≤ 2147483647 from H.krg 1 1 (ltn len_V111_Row_Br_oz_F4cls rfl)) (show F18 1 1 = y18_0_1 from ((eF18 1 1).trans ey18_0_1))
      have r20 : (0 : Int) ≤ y18_0_2 ∧ y18_0_2 ≤ 1 := rngE (show (0 : Int) ≤ F18 1 2 ∧ F18 1 2 ≤ 1 from H.krg 1 2 (ltn len_V111_Row_Br_oz_F4cls rfl)) (show F18 1 2 = y18_0_2 from ((eF18 1 2).trans ey18_0_2))
      have r21 : (-2147483648 : Int) ≤ y18_0_3 ∧ y18_0_3 ≤ 2147483647 := rngE (show (-2147483648 : Int) ≤ F18 1 3 ∧ F18 1 3 ≤ 2147483647 from H.krg 1 3 (ltn len_V111_Row_Br_oz_F4cls rfl)) (show F18 1 3 = y18_0_3 from ((eF18 1 3).trans ey18_0_3))
      have r22 : (-2147483648 : Int) ≤ y18_0_4 ∧ y18_0_4 ≤ 2147483647 := rngE (show (-2147483648 : Int) ≤ F18 1 4 ∧ F18 1 4 ≤ 2147483647 from H.krg 1 4 (ltn len_V111_Row_Br_oz_F4cls rfl)) (show F18 1 4 = y18_0_4 from ((eF18 1 4).trans ey18_0_4))
      have ha65 := pz18_3 ⟨by omega, by omega, by omega, by omega⟩
      have hB65 := ha65.1 _ _ j19_w
      have hn65 := ha65.2.1
      have hm65 := ha65.2.2
      refine Ew_of (pcₚ := 66) (fun _ => x_aload_n rfl l19_1) ?_
      refine v_inv H (o := 1) rfl rfl rfl rfl rfl rfl (by rfl) (C165h (D := puc 1537 D11) (N := puc 1537 N11) (HW_subc H oz_F4cls_20 oz_F4cls_23) (((((show F18 1 0 = F_19 1 0 from (eF18 1 0).trans (hS18 0 0 rfl))).trans (hS_19 1 0 rfl))).trans (pf11_1_0)) (m11_1) ((congrArg (fun q : Nat => (q : Int)) (eN11 3)).trans em11_1) (y18_0_1) (((eF18 1 1).trans ey18_0_1)) (y18_0_2) (((eF18 1 2).trans ey18_0_2)) (y18_0_3) (((eF18 1 3).trans ey18_0_3)) (y18_0_4) (((eF18 1 4).trans ey18_0_4)) (w18_1) ((eA18 3).trans ew18_1) (show 0 ≤ (y18_0_1) ∧ (y18_0_1) ≤ (m11_1) ∧ (m11_1) ≤ 65536 from pz18_0) (show 0 ≤ (y18_0_4) from q_3575 pz18_2) (fun σ23 F23ₚ A23ₚ Hₚ Oₚ hS23 hA23 y23_0_1 ey23_0_1 y23_0_2 ey23_0_2 y23_0_3 ey23_0_3 y23_0_4 ey23_0_4 w23_1 ew23_1 pz23_0 pz23_1 pz23_2 pz23_3 pz23_4 => ⟨rfl, ?_⟩))
      refine v_backc (c := (c + c11)) (s := (s + s11)) H oz_F4cls_20 oz_F4cls_23 Hₚ Oₚ (fun F23 A23 H Oₚ eF23 eA23 => ?_)
      have O := OUT_trans O Oₚ
      -- Row.endBits
      have cF23 : SF oz_F4clsl_9 F F23 := SF_trans (cF18) (SF_gluc (ι := oz_F4clsl_11) oz_F4cls_23 hS23 eF23 (by decide +kernel)) (any_sub (lₚ := [(1, 1), (1, 2), (1, 3), (1, 4)]) (by decide +kernel))
      have mF23 := SFm_of cF23 oz_F4cls_21
      have cA23 : SA oz_F4clsl_10 A A23 := SA_trans (cA18) (SA_gluc (ι := oz_F4clsl_11) oz_F4cls_23 hA23 eA23 (by decide +kernel)) (any_subA (lₚ := [3]) (by decide +kernel))
      have mA23 := SAm_of cA23 oz_F4cls_22
      have r24 : (-2147483648 : Int) ≤ y23_0_1 ∧ y23_0_1 ≤ 2147483647 := rngE (show (-2147483648 : Int) ≤ F23 1 1 ∧ F23 1 1 ≤ 2147483647 from H.krg 1 1 (ltn len_V111_Row_Br_oz_F4cls rfl)) (show F23 1 1 = y23_0_1 from ((eF23 1 1).trans ey23_0_1))
      have r25 : (0 : Int) ≤ y23_0_2 ∧ y23_0_2 ≤ 1 := rngE (show (0 : Int) ≤ F23 1 2 ∧ F23 1 2 ≤ 1 from H.krg 1 2 (ltn len_V111_Row_Br_oz_F4cls rfl)) (show F23 1 2 = y23_0_2 from ((eF23 1 2).trans ey23_0_2))
      have r26 : (-2147483648 : Int) ≤ y23_0_3 ∧ y23_0_3 ≤ 2147483647 := rngE (show (-2147483648 : Int) ≤ F23 1 3 ∧ F23 1 3 ≤ 2147483647 from H.krg 1 3 (ltn len_V111_Row_Br_oz_F4cls rfl)) (show F23 1 3 = y23_0_3 from ((eF23 1 3).trans ey23_0_3))
      have r27 : (-2147483648 : Int) ≤ y23_0_4 ∧ y23_0_4 ≤ 2147483647 := rngE (show (-2147483648 : Int) ≤ F23 1 4 ∧ F23 1 4 ≤ 2147483647 from H.krg 1 4 (ltn len_V111_Row_Br_oz_F4cls rfl)) (show F23 1 4 = y23_0_4 from ((eF23 1 4).trans ey23_0_4))
      have hfin := pz23_3 ⟨by omega, by omega⟩ _ _ hB65
      have hend : sc ((w23_1)) 0 ((y23_0_1)) = sc ((w3)) 0 ((u1_1)) ++ byw (stm ((w4)) ((u0_3)) (ub8 ((w2))) ((a3)) ((a4))) := by have e := (RBB_L hfin).1; rw [show ((a4) - 1 - (x19_5) : Int).toNat = ((a4) - (a3) : Int).toNat by omega] at e; exact e
      have hbu0 := (RBB_L hfin).2
      exact w_ret rfl (k _ _ _ _ _ _ _ H O (cD11) (cN11) (cF23) (cA23) ((((((show F23 1 0 = F18 1 0 from (eF23 1 0).trans (hS23 0 0 rfl))).trans ((show F18 1 0 = F_19 1 0 from (eF18 1 0).trans (hS18 0 0 rfl)))).trans (hS_19 1 0 rfl))).trans (pf11_1_0)) (m11_1) ((congrArg (fun q : Nat => (q : Int)) (eN11 3)).trans em11_1) (y23_0_1) (((eF23 1 1).trans ey23_0_1)) (y23_0_2) (((eF23 1 2).trans ey23_0_2)) (y23_0_3) (((eF23 1 3).trans ey23_0_3)) (y23_0_4) (((eF23 1 4).trans ey23_0_4)) (w23_1) ((eA23 3).trans ew23_1) (show 0 ≤ (y23_0_1) ∧ (y23_0_1) ≤ (m11_1) ∧ (m11_1) ≤ 65536 from pz23_0) (show (y23_0_4) = 0 from q_3098 pz23_1) (show (u1_1) ≤ (y23_0_1) from q_3760 j19_5 pz18_1 pz23_1) (show (y23_0_3) = 0 ∧ (y23_0_2) = 0 by omega) (hend) (show 8 * (y23_0_1) ≤ 8 * (u1_1) + 11 * (a4 - a3) + 16 by omega))
    · obtain ⟨ql5, hql5⟩ : ∃ q : Int, q = (x19_5) := ⟨_, rfl⟩
      refine Ew_of (pcₚ := 26) (fun _ => x_aload_n rfl l19_2) ?_
      refine Ew_of (pcₚ := 28) (fun _ => x_iload rfl l19_5) ?_
      refine v_lB H (o := 2) rfl rfl rfl rfl (n := n2) ((congrArg (fun q : Nat => (q : Int)) (mN11 2 rfl)).trans (en2)) (show 0 ≤ x19_5 ∧ x19_5 < n2 from q_3761 b17 h4 j19_1) (fun v28 ev28 qv28 => ?_)
      have ev28 : (w2) (x19_5) = v28 := (congrFun ((funext (mA_19 2 rfl)).trans (ew2)) (x19_5)).symm.trans ev28
      have he29 := ev28
      refine Ew_of (pcₚ := 32) (fun _ => x_sipush (z := 255) rfl (by decide)) ?_
      refine v_and255 rfl ?_
      have hu33 : (ub8 ((w2))) ql5 = ((v28 % 256)) := by rw [hql5]; show u8 (((w2)) ((x19_5))) = ((v28 % 256)); rw [he29]; unfold u8; omega
      have hs33 : (ub8 ((w2))) ((a4) - 1 - ((a4) - 1 - ql5)) = ((v28 % 256)) := by rw [show (a4) - 1 - ((a4) - 1 - ql5) = ql5 by omega]; exact hu33
      have hnz := hco (ql5) (by omega) (by omega)
      rw [hu33] at hnz
      refine Ew_of (pcₚ := 35) (fun _ => x_istore rfl) ?_
      refine Ew_of (pcₚ := 36) (fun _ => x_aload_n rfl (rk_o (l19_1) rfl rfl)) ?_
      refine Ew_of (pcₚ := 37) (fun _ => x_aload_n rfl (rk_o (l19_0) rfl rfl)) ?_
      refine v_g H (o := 0) (v := .ref (D11 5)) rfl rfl rfl rfl rfl (vrf ((mF_19 0 1 rfl).trans ((pf5).trans (congrArg (fun q : Nat => (q : Int)) (mD11 5 rfl).symm)))) ?_
      refine Ew_of (pcₚ := 42) (fun _ => x_iload rfl rk_s) ?_
      refine v_lI H (o := 5) rfl rfl rfl rfl (n := n5) ((congrArg (fun q : Nat => (q : Int)) (mN11 5 rfl)).trans (en5)) (show 0 ≤ (v28 % 256) ∧ (v28 % 256) < n5 from q_3762 h7) (fun v29 ev29 qv29 => ?_)
      have ev29 : (w5) ((v28 % 256)) = v29 := (congrFun ((funext (mA_19 5 rfl)).trans (ew5)) ((v28 % 256))).symm.trans ev29
      have hc43 : (v29) = cdF ((w4)) ((u0_3)) (((v28 % 256))) / p2 (((u0_3)) - ((w4)) (((v28 % 256)))) := by rw [← ev29]; exact (hcd hci).2 (((v28 % 256))) (by omega) (by omega) hnz
      refine Ew_of (pcₚ := 44) (fun _ => x_aload_n rfl (rk_o (l19_0) rfl rfl)) ?_
      refine v_g H (o := 0) (v := .ref (D11 4)) rfl rfl rfl rfl rfl (vrf ((mF_19 0 0 rfl).trans ((pf4).trans (congrArg (fun q : Nat => (q : Int)) (mD11 4 rfl).symm)))) ?_
      refine Ew_of (pcₚ := 49) (fun _ => x_iload rfl rk_s) ?_
      refine v_lI H (o := 4) rfl rfl rfl rfl (n := n4) ((congrArg (fun q : Nat => (q : Int)) (mN11 4 rfl)).trans (en4)) (show 0 ≤ (v28 % 256) ∧ (v28 % 256) < n4 from q_3763 h7) (fun v30 ev30 qv30 => ?_)
      have ev30 : (w4) ((v28 % 256)) = v30 := (congrFun ((funext (mA_19 4 rfl)).trans (ew4)) ((v28 % 256))).symm.trans ev30
      have hlb := hln (((v28 % 256))) (by omega) (by omega)
      rw [ev30] at hlb
      have hl50 := ev30
      refine v_inv H (o := 1) rfl rfl rfl rfl rfl rfl (by rfl) (C164 (D := puc 1537 D11) (N := puc 1537 N11) (HW_subc H oz_F4cls_19 oz_F4cls_23) (((hS_19 1 0 rfl)).trans (pf11_1_0)) (m11_1) ((congrArg (fun q : Nat => (q : Int)) (eN11 3)).trans em11_1) (y19_1_1) ((ey19_1_1)) (y19_1_2) ((ey19_1_2)) (y19_1_3) ((ey19_1_3)) (y19_1_4) ((ey19_1_4)) (w19_3) (ew19_3) (show inr (v29) from qv29) (show inr (v30) from qv30) (show 0 ≤ (y19_1_1) ∧ (y19_1_1) ≤ (m11_1) ∧ (m11_1) ≤ 65536 from j19_3) (show 0 ≤ (v30) ∧ (v30) ≤ 31 by omega) (show 0 ≤ (y19_1_4) ∧ (y19_1_4) ≤ 7 from j19_4) (fun σ31 F31ₚ A31ₚ Hₚ Oₚ hS31 hA31 y31_0_1 ey31_0_1 y31_0_2 ey31_0_2 y31_0_3 ey31_0_3 y31_0_4 ey31_0_4 w31_1 ew31_1 pz31_0 pz31_1 pz31_2 pz31_3 => ⟨rfl, ?_⟩))
      refine v_backc (c := (c + c11)) (s := (s + s11)) H oz_F4cls_19 oz_F4cls_23 Hₚ Oₚ (fun F31 A31 H Oₚ eF31 eA31 => ?_)
      have O := OUT_trans O Oₚ
      -- Row.addBits
      have cF31 : SF oz_F4clsl_9 F F31 := SF_trans (cF_19) (SF_gluc (ι := oz_F4clsl_11) oz_F4cls_23 hS31 eF31 (by decide +kernel)) (any_sub (lₚ := [(1, 1), (1, 2), (1, 3), (1, 4)]) (by decide +kernel))
      have mF31 := SFm_of cF31 oz_F4cls_21
      have cA31 : SA oz_F4clsl_10 A A31 := SA_trans (cA_19) (SA_gluc (ι := oz_F4clsl_11) oz_F4cls_23 hA31 eA31 (by decide +kernel)) (any_subA (lₚ := [3]) (by decide +kernel))
      have mA31 := SAm_of cA31 oz_F4cls_22
      have r32 : (-2147483648 : Int) ≤ y31_0_1 ∧ y31_0_1 ≤ 2147483647 := rngE (show (-2147483648 : Int) ≤ F31 1 1 ∧ F31 1 1 ≤ 2147483647 from H.krg 1 1 (ltn len_V111_Row_Br_oz_F4cls rfl)) (show F31 1 1 = y31_0_1 from ((eF31 1 1).trans ey31_0_1))
      have r33 : (0 : Int) ≤ y31_0_2 ∧ y31_0_2 ≤ 1 := rngE (show (0 : Int) ≤ F31 1 2 ∧ F31 1 2 ≤ 1 from H.krg 1 2 (ltn len_V111_Row_Br_oz_F4cls rfl)) (show F31 1 2 = y31_0_2 from ((eF31 1 2).trans ey31_0_2))
      have r34 : (-2147483648 : Int) ≤ y31_0_3 ∧ y31_0_3 ≤ 2147483647 := rngE (show (-2147483648 : Int) ≤ F31 1 3 ∧ F31 1 3 ≤ 2147483647 from H.krg 1 3 (ltn len_V111_Row_Br_oz_F4cls rfl)) (show F31 1 3 = y31_0_3 from ((eF31 1 3).trans ey31_0_3))
      have r35 : (-2147483648 : Int) ≤ y31_0_4 ∧ y31_0_4 ≤ 2147483647 := rngE (show (-2147483648 : Int) ≤ F31 1 4 ∧ F31 1 4 ≤ 2147483647 from H.krg 1 4 (ltn len_V111_Row_Br_oz_F4cls rfl)) (show F31 1 4 = y31_0_4 from ((eF31 1 4).trans ey31_0_4))
      have ha53 := pz31_3 ⟨by omega, by omega, by omega, by omega⟩
      have hB53 := ha53.1 _ _ j19_w
      have hn53 := ha53.2.1
      have hm53 := ha53.2.2
      refine Ew_of (pcₚ := 56) (fun _ => x_iinc (len := 3) rfl (rk_o (l19_5) rfl rfl)) ?_
      refine Ew_of (pcₚ := 19) (fun _ => x_goto rfl rfl) ?_
      have : RBB ((y31_0_2)) ((w31_1)) ((y31_0_1)) ((y31_0_3)) ((y31_0_4)) (sc ((w3)) 0 ((u1_1))) (smB ((w4)) ((u0_3)) (ub8 ((w2))) ((a4)) ((a4) - 1 - ((x19_5 + (-1))) : Int).toNat) := by rw [smB_s (n := (a4) - 1 - ql5) (by omega) (by omega) hs33 hc43 hl50, hql5]; exact hB53
      exact ih19 _ (msE hm19 q_2215 (q_2216 b17)) _ _ _ _ ((x19_5 + (-1))) (rk_o (rk_o (l19_0) rfl rfl) rfl rfl) (rk_o (rk_o (l19_1) rfl rfl) rfl rfl) (rk_o (rk_o (l19_2) rfl rfl) rfl rfl) (rk_o (rk_o (l19_3) rfl rfl) rfl rfl) (rk_s) H O (SF_trans (hS_19) (SF_gluc (ι := oz_F4clsl_11) oz_F4cls_23 hS31 eF31 (by decide +kernel)) (any_sub (lₚ := [(1, 1), (1, 2), (1, 3), (1, 4)]) (by decide +kernel))) (SA_trans (hA_19) (SA_gluc (ι := oz_F4clsl_11) oz_F4cls_23 hA31 eA31 (by decide +kernel)) (any_subA (lₚ := [3]) (by decide +kernel)))   (y31_0_1) (((eF31 1 1).trans ey31_0_1)) (y31_0_2) (((eF31 1 2).trans ey31_0_2)) (y31_0_3) (((eF31 1 3).trans ey31_0_3)) (y31_0_4) (((eF31 1 4).trans ey31_0_4)) (w31_1) ((eA31 3).trans ew31_1) (show inr ((x19_5 + (-1))) from q_3764 b17 h4 j19_0) (show ((x19_5 + (-1))) ≤ ((a4 - 1)) from q_430 j19_1) (show ((a4 - 1)) ≤ ((x19_5 + (-1))) ∨ (((a3) - 1)) ≤ ((x19_5 + (-1))) from q_2212 b17) (show 0 ≤ (y31_0_1) ∧ (y31_0_1) ≤ (m11_1) ∧ (m11_1) ≤ 65536 from pz31_0) (show 0 ≤ (y31_0_4) ∧ (y31_0_4) ≤ 7 from pz31_2) (show (u1_1) ≤ (y31_0_1) from q_2270 j19_5 pz31_1) (show (a3) - 1 ≤ ((x19_5 + (-1))) from q_2211 b17) (show 0 ≤ (y31_0_3) ∧ (y31_0_3) < p2 ((y31_0_4)) by omega) (show 8 * (y31_0_1) + (y31_0_4) ≤ 8 * (u1_1) + 11 * ((a4) - 1 - ((x19_5 + (-1)))) by omega) (show (u1_1) + 2 * ((a4) - (a3)) + 2 ≤ (m11_1) from j19_9) (show RBB ((y31_0_2)) ((w31_1)) ((y31_0_1)) ((y31_0_3)) ((y31_0_4)) (sc ((w3)) 0 ((u1_1))) (smB ((w4)) ((u0_3)) (ub8 ((w2))) ((a4)) ((a4) - 1 - ((x19_5 + (-1))) : Int).toNat) by assumption) rfl
abbrev V105_Row : vV := [(0, 3, [(4, 0), (4, 0), (4, 0), (0, 0), (4, 0), (4, 0), (4, 0), (4, 0), (4, 0), (4, 0), (4, 0), (4, 0), (4, 0), (0, 0), (0, 0), (0, 0), (0, 0)]), (0, 7, [(4, 0), (0, 0), (1, 0), (0, 0), (0, 0)]), (1, 0, []), (1, 1, [])]
theorem len_V105_Row_oz_F4cls : (V105_Row).length = 4 := by decide +kernel
theorem oz_F4cls_25 : vsub V105_Row V157 [1, 2] = true := by decide +kernel
theorem oz_F4cls_26 : vmov V105_Row [1, 2] [1] = true := by decide +kernel
theorem oz_F4cls_27 : vsub V105_Row V164 [1, 2] = true := by decide +kernel
def oz_F4clsl_12 : List Nat := [2]
theorem oz_F4cls_28 : (oz_F4clsl_12).all (fun p => !tbz 4 p) = true := by decide +kernel
def oz_F4clsl_13 : List Nat := [1, 2]
theorem oz_F4cls_29 : okc oz_F4clsl_13 1025 = true := by decide +kernel

theorem C105_Row {σE : rS} {D N : Nat → Nat} {F : hF} {A : hA} {d c s : Nat} {Q : wQ} (H : HW V105_Row σE D N F A) {a2 : Int} (pf2 : F 1 0 = (D 2 : Int)) (pf3 : F 0 4 = (D 3 : Int)) (n2 : Int) (en2 : (N 2 : Int) = n2) (n3 : Int) (en3 : (N 3 : Int) = n3) (u1_1 : Int) (eu1_1 : F 1 1 = u1_1) (u1_2 : Int) (eu1_2 : F 1 2 = u1_2) (u1_3 : Int) (eu1_3 : F 1 3 = u1_3) (u1_4 : Int) (eu1_4 : F 1 4 = u1_4) (w2 : Int → Int) (ew2 : A 2 = w2) (w3 : Int → Int) (ew3 : A 3 = w3) (h0 : inr (a2)) (h1 : 0 ≤ (u1_1) ∧ (u1_1) ≤ (n2) ∧ (n2) ≤ 65536) (h2 : 0 ≤ (u1_4) ∧ (u1_4) ≤ 7) (h3 : 0 ≤ (a2) ∧ (a2) ≤ 128) (h4 : (n3) = 256) (h5 : (u1_1) = 0 ∧ (u1_4) = 0 ∧ (u1_3) = 0 ∧ (u1_2) = 0) (h6 : WGB ((w3)) 11 (a2)) (k : ∀ (σ : rS) (Dₚ Nₚ : Nat → Nat) (Fₚ : hF) (Aₚ : hA) (cₚ sₚ : Nat), HW V105_Row σ Dₚ Nₚ Fₚ Aₚ → OUT (V105_Row).length D N σE c s Dₚ Nₚ σ cₚ sₚ → SD [2] D Dₚ → SD [2] N Nₚ → SF [(1, 0), (1, 1), (1, 2), (1, 3), (1, 4)] F Fₚ → SA [2] A Aₚ → Fₚ 1 0 = (Dₚ 2 : Int) → ∀ m2 : Int, (Nₚ 2 : Int) = m2 → ∀ y1_1 : Int, Fₚ 1 1 = y1_1 → ∀ y1_2 : Int, Fₚ 1 2 = y1_2 → ∀ y1_3 : Int, Fₚ 1 3 = y1_3 → ∀ y1_4 : Int, Fₚ 1 4 = y1_4 → ∀ v2 : Int → Int, Aₚ 2 = v2 → (0 ≤ (y1_1) ∧ (y1_1) ≤ (m2) ∧ (m2) ≤ 65536) → (0 ≤ (y1_4) ∧ (y1_4) ≤ 7) → ((u1_1) ≤ (y1_1)) → ((y1_4) = 0 ∧ (y1_3) = 0 ∧ (y1_2) = 0) → (sc ((v2)) 0 ((y1_1)) = drB ((w3)) ((a2))) → Q none σ cₚ sₚ) : Ew 105 (d + 2) 0 (rargs 0 [.ref (D 0), .ref (D 1), I a2]) [] σE c s Q := by
  have O := OUT_refl (n := (V105_Row).length) (D := D) (N := N) (σ := σE) (c := c) (s := s)
  have HE := H
  have r1 : (-2147483648 : Int) ≤ u1_1 ∧ u1_1 ≤ 2147483647 := rngE (show (-2147483648 : Int) ≤ F 1 1 ∧ F 1 1 ≤ 2147483647 from H.krg 1 1 (ltn len_V105_Row_oz_F4cls rfl)) (show F 1 1 = u1_1 from (eu1_1))
  have r2 : (0 : Int) ≤ u1_2 ∧ u1_2 ≤ 1 := rngE (show (0 : Int) ≤ F 1 2 ∧ F 1 2 ≤ 1 from H.krg 1 2 (ltn len_V105_Row_oz_F4cls rfl)) (show F 1 2 = u1_2 from (eu1_2))
  have r3 : (-2147483648 : Int) ≤ u1_3 ∧ u1_3 ≤ 2147483647 := rngE (show (-2147483648 : Int) ≤ F 1 3 ∧ F 1 3 ≤ 2147483647 from H.krg 1 3 (ltn len_V105_Row_oz_F4cls rfl)) (show F 1 3 = u1_3 from (eu1_3))
  have r4 : (-2147483648 : Int) ≤ u1_4 ∧ u1_4 ≤ 2147483647 := rngE (show (-2147483648 : Int) ≤ F 1 4 ∧ F 1 4 ≤ 2147483647 from H.krg 1 4 (ltn len_V105_Row_oz_F4cls rfl)) (show F 1 4 = u1_4 from (eu1_4))
  have r5 : (0 : Int) ≤ n2 ∧ n2 ≤ 1000000 := nleE (H.nle 2 (ltn len_V105_Row_oz_F4cls rfl)) (show (N 2 : Int) = n2 from en2)
  have r6 : (0 : Int) ≤ n3 ∧ n3 ≤ 1000000 := nleE (H.nle 3 (ltn len_V105_Row_oz_F4cls rfl)) (show (N 3 : Int) = n3 from en3)
  have hwg : WGB ((w3)) 11 (a2) := h6
  refine Ew_of (pcₚ := 1) (fun _ => x_aload_n rfl rfl) ?_
  refine Ew_of (pcₚ := 2) (fun _ => x_iconst rfl) ?_
  refine Ew_of (pcₚ := 3) (fun _ => x_iload_n rfl rfl) ?_
  refine w_iadd rfl ?_
  refine v_inv H (o := 1) rfl rfl rfl rfl rfl rfl (by rfl) (C157 (D := puc 1025 D) (N := puc 1025 N) (HW_subc H oz_F4cls_25 oz_F4cls_29) (pf2) (n2) (en2) (u1_1) ((eu1_1)) (w2) (ew2) (show inr ((1 + a2)) from q_3765 h3) (show 0 ≤ (u1_1) ∧ (u1_1) ≤ (n2) ∧ (n2) ≤ 65536 from h1) (fun z7 σ7 D7ₚ N7ₚ F7ₚ A7ₚ c7 s7 Hₚ Oₚ hD7 hN7 hS7 hA7 pm7_1 m7_1 em7_1 w7_1 ew7_1 pz7_0 pz7_1 pz7_2 pz7_3 pz7_4 => ⟨rretB rfl pz7_0, ?_⟩))
  refine v_backMc (c := c) (s := s) H oz_F4cls_25 oz_F4cls_29 Hₚ Oₚ hD7 oz_F4cls_26 (fun D7 N7 F7 A7 H Oₚ eD7 eN7 eF7 eA7 => ?_)
  have O := OUT_trans O Oₚ
  -- Row.reserve
  have cF7 : SF oz_F4clsl_9 F F7 := SF_trans (SF_refl) (SF_gluc (ι := oz_F4clsl_13) oz_F4cls_29 hS7 eF7 (by decide +kernel)) (any_sub (lₚ := [(1, 0)]) (by decide +kernel))
  have mF7 := SFm_of cF7 oz_F4cls_21
  have cA7 : SA oz_F4clsl_12 A A7 := SA_trans (SA_refl) (SA_gluc (ι := oz_F4clsl_13) oz_F4cls_29 hA7 eA7 (by decide +kernel)) (any_subA (lₚ := [2]) (by decide +kernel))
  have mA7 := SAm_of cA7 oz_F4cls_28
  have cD7 : SD oz_F4clsl_12 D D7 := SD_trans (SD_refl) (SD_gluc (ι := oz_F4clsl_13) oz_F4cls_29 hD7 eD7 (by decide +kernel)) (any_subA (lₚ := [2]) (by decide +kernel))
  have mD7 := SDm_of cD7 oz_F4cls_28
  have cN7 : SD oz_F4clsl_12 N N7 := SD_trans (SD_refl) (SD_gluc (ι := oz_F4clsl_13) oz_F4cls_29 hN7 eN7 (by decide +kernel)) (any_subA (lₚ := [2]) (by decide +kernel))
  have mN7 := SDm_of cN7 oz_F4cls_28
  have pf7_1_0 : F7 1 0 = (D7 2 : Int) := (eF7 1 0).trans (pm7_1.trans (congrArg (fun q : Nat => (q : Int)) (eD7 2).symm))
  have r8 : (0 : Int) ≤ m7_1 ∧ m7_1 ≤ 1000000 := nleE (H.nle 2 (ltn len_V105_Row_oz_F4cls rfl)) (show (N7 2 : Int) = m7_1 from (congrArg (fun q : Nat => (q : Int)) (eN7 2)).trans em7_1)
  refine Ew_of (pcₚ := 8) (fun _ => x_pop rfl rfl) ?_
  refine Ew_of (pcₚ := 9) (fun _ => x_aload_n rfl rfl) ?_
  refine Ew_of (pcₚ := 11) (fun _ => x_bipush (z := 127) rfl (by decide)) ?_
  refine Ew_of (pcₚ := 12) (fun _ => x_iload_n rfl rfl) ?_
  refine w_iadd rfl ?_
  refine Ew_of (pcₚ := 15) (fun _ => x_bipush (z := 8) rfl (by decide)) ?_
  refine Ew_stk (congrArg (fun qz : Nat => ([I (8), I ((127 + a2)), .ref qz] : List Value)) (show D7 1 = D 1 from mD7 1 rfl).symm) ?_
  refine v_inv H (o := 1) rfl rfl rfl rfl rfl rfl (by rfl) (C164 (D := puc 1025 D7) (N := puc 1025 N7) (HW_subc H oz_F4cls_27 oz_F4cls_29) (pf7_1_0) (m7_1) ((congrArg (fun q : Nat => (q : Int)) (eN7 2)).trans em7_1) (u1_1) ((((show F7 1 1 = F 1 1 from (eF7 1 1).trans (hS7 0 1 rfl))).trans (eu1_1))) (u1_2) ((((show F7 1 2 = F 1 2 from (eF7 1 2).trans (hS7 0 2 rfl))).trans (eu1_2))) (u1_3) ((((show F7 1 3 = F 1 3 from (eF7 1 3).trans (hS7 0 3 rfl))).trans (eu1_3))) (u1_4) ((((show F7 1 4 = F 1 4 from (eF7 1 4).trans (hS7 0 4 rfl))).trans (eu1_4))) (w7_1) ((eA7 2).trans ew7_1) (show inr ((127 + a2)) from q_3766 h3) (show inr (8) from q_141) (show 0 ≤ (u1_1) ∧ (u1_1) ≤ (m7_1) ∧ (m7_1) ≤ 65536 from pz7_1) (show 0 ≤ (8) ∧ (8) ≤ 31 from q_2497) (show 0 ≤ (u1_4) ∧ (u1_4) ≤ 7 from h2) (fun σ9 F9ₚ A9ₚ Hₚ Oₚ hS9 hA9 y9_0_1 ey9_0_1 y9_0_2 ey9_0_2 y9_0_3 ey9_0_3 y9_0_4 ey9_0_4 w9_1 ew9_1 pz9_0 pz9_1 pz9_2 pz9_3 => ⟨rfl, ?_⟩))
  refine v_backc (c := (c + c7)) (s := (s + s7)) H oz_F4cls_27 oz_F4cls_29 Hₚ Oₚ (fun F9 A9 H Oₚ eF9 eA9 => ?_)
  have O := OUT_trans O Oₚ
  -- Row.addBits
  have cF9 : SF oz_F4clsl_9 F F9 := SF_trans (cF7) (SF_gluc (ι := oz_F4clsl_13) oz_F4cls_29 hS9 eF9 (by decide +kernel)) (any_sub (lₚ := [(1, 1), (1, 2), (1, 3), (1, 4)]) (by decide +kernel))
  have mF9 := SFm_of cF9 oz_F4cls_21
  have cA9 : SA oz_F4clsl_12 A A9 := SA_trans (cA7) (SA_gluc (ι := oz_F4clsl_13) oz_F4cls_29 hA9 eA9 (by decide +kernel)) (any_subA (lₚ := [2]) (by decide +kernel))
  have mA9 := SAm_of cA9 oz_F4cls_28
  have r10 : (-2147483648 : Int) ≤ y9_0_1 ∧ y9_0_1 ≤ 2147483647 := rngE (show (-2147483648 : Int) ≤ F9 1 1 ∧ F9 1 1 ≤ 2147483647 from H.krg 1 1 (ltn len_V105_Row_oz_F4cls rfl)) (show F9 1 1 = y9_0_1 from ((eF9 1 1).trans ey9_0_1))
  have r11 : (0 : Int) ≤ y9_0_2 ∧ y9_0_2 ≤ 1 := rngE (show (0 : Int) ≤ F9 1 2 ∧ F9 1 2 ≤ 1 from H.krg 1 2 (ltn len_V105_Row_oz_F4cls rfl)) (show F9 1 2 = y9_0_2 from ((eF9 1 2).trans ey9_0_2))
  have r12 : (-2147483648 : Int) ≤ y9_0_3 ∧ y9_0_3 ≤ 2147483647 := rngE (show (-2147483648 : Int) ≤ F9 1 3 ∧ F9 1 3 ≤ 2147483647 from H.krg 1 3 (ltn len_V105_Row_oz_F4cls rfl)) (show F9 1 3 = y9_0_3 from ((eF9 1 3).trans ey9_0_3))
  have r13 : (-2147483648 : Int) ≤ y9_0_4 ∧ y9_0_4 ≤ 2147483647 := rngE (show (-2147483648 : Int) ≤ F9 1 4 ∧ F9 1 4 ≤ 2147483647 from H.krg 1 4 (ltn len_V105_Row_oz_F4cls rfl)) (show F9 1 4 = y9_0_4 from ((eF9 1 4).trans ey9_0_4))
  have ha18 := pz9_3 ⟨by omega, by omega, lt_p2 (by omega), by omega⟩
  have hB18 := ha18.1 [] [] (RBB_new (by omega) (sc_nil (by omega)) (by omega) (by omega))
  rw [List.nil_append] at hB18
  have hn18 := ha18.2.1
  have hm18 := ha18.2.2
  refine Ew_of (pcₚ := 19) (fun _ => x_iconst rfl) ?_
  refine Ew_of (pcₚ := 20) (fun _ => x_istore_n rfl) ?_
  have : RBB ((y9_0_2)) ((w9_1)) ((y9_0_1)) ((y9_0_3)) ((y9_0_4)) [] (btw (127 + (a2)) 8 ++ drP ((w3)) ((a2)) ((0))) := by rw [drP_0, List.append_nil]; exact hB18
  suffices hl20 : ∀ (m : Nat), ∀ (ls : rO) (σ : rS) (F_20 : hF) (A_20 : hA) (x20_3 : Int), rlook ls 0 = some (.ref (D7 0)) → rlook ls 1 = some (.ref (D7 1)) → rlook ls 2 = some (I (a2)) → rlook ls 3 = some (I (x20_3)) → HW V105_Row σ D7 N7 F_20 A_20 → OUT (V105_Row).length D N σE c s D7 N7 σ (c + c7) (s + s7) → SF [(1, 1), (1, 2), (1, 3), (1, 4)] F9 F_20 → SA [2] A9 A_20 → ∀ y20_1_1 : Int, F_20 1 1 = y20_1_1 → ∀ y20_1_2 : Int, F_20 1 2 = y20_1_2 → ∀ y20_1_3 : Int, F_20 1 3 = y20_1_3 → ∀ y20_1_4 : Int, F_20 1 4 = y20_1_4 → ∀ w20_2 : Int → Int, A_20 2 = w20_2 → (inr (x20_3)) → (0 ≤ (x20_3) ∧ (x20_3) ≤ (a2) + 1) → ((x20_3) % 2 = 0) → (0 ≤ (y20_1_1) ∧ (y20_1_1) ≤ (m7_1) ∧ (m7_1) ≤ 65536) → (0 ≤ (y20_1_4) ∧ (y20_1_4) ≤ 7) → ((u1_1) ≤ (y20_1_1)) → (1 + (a2) ≤ (m7_1)) → (0 ≤ (y20_1_3) ∧ (y20_1_3) < p2 ((y20_1_4))) → (8 * (y20_1_1) + (y20_1_4) = 8 + 4 * (x20_3)) → (RBB ((y20_1_2)) ((w20_2)) ((y20_1_1)) ((y20_1_3)) ((y20_1_4)) [] (btw (127 + (a2)) 8 ++ drP ((w3)) ((a2)) ((x20_3)))) → ((a2) - (x20_3)).toNat = m → Ew 105 (d + 2) 20 ls [] σ (c + c7) (s + s7) Q from
    hl20 _ _ _ _ _ (0) ((rk_o (rfl) rfl rfl).trans (congrArg (fun q : Nat => some (Value.ref q)) (mD7 0 rfl).symm)) ((rk_o (rfl) rfl rfl).trans (congrArg (fun q : Nat => some (Value.ref q)) (mD7 1 rfl).symm)) (rk_o (rfl) rfl rfl) (rk_s) H O (SF_refl) (SA_refl)   (y9_0_1) (((eF9 1 1).trans ey9_0_1)) (y9_0_2) (((eF9 1 2).trans ey9_0_2)) (y9_0_3) (((eF9 1 3).trans ey9_0_3)) (y9_0_4) (((eF9 1 4).trans ey9_0_4)) (w9_1) ((eA9 2).trans ew9_1) (show inr (0) from q_2) (show 0 ≤ (0) ∧ (0) ≤ (a2) + 1 from q_3768 h3) (show (0) % 2 = 0 by omega) (show 0 ≤ (y9_0_1) ∧ (y9_0_1) ≤ (m7_1) ∧ (m7_1) ≤ 65536 from pz9_0) (show 0 ≤ (y9_0_4) ∧ (y9_0_4) ≤ 7 from pz9_2) (show (u1_1) ≤ (y9_0_1) from pz9_1) (show 1 + (a2) ≤ (m7_1) from q_3767 h3 pz7_1 pz7_2 r8) (show 0 ≤ (y9_0_3) ∧ (y9_0_3) < p2 ((y9_0_4)) by omega) (show 8 * (y9_0_1) + (y9_0_4) = 8 + 4 * (0) by omega) (show RBB ((y9_0_2)) ((w9_1)) ((y9_0_1)) ((y9_0_3)) ((y9_0_4)) [] (btw (127 + (a2)) 8 ++ drP ((w3)) ((a2)) ((0))) by assumption) rfl
  as_aux_lemma =>
  intro m
  induction m using Nat.strongRecOn with
  | _ m ih20 =>
    intro ls σ F_20 A_20 x20_3 l20_0 l20_1 l20_2 l20_3 H O hS_20 hA_20   y20_1_1 ey20_1_1 y20_1_2 ey20_1_2 y20_1_3 ey20_1_3 y20_1_4 ey20_1_4 w20_2 ew20_2 j20_0 j20_1 j20_2 j20_3 j20_4 j20_5 j20_6 j20_7 j20_8 j20_9 hm20
    have cF_20 : SF oz_F4clsl_9 F F_20 := SF_trans (cF9) hS_20 (any_sub (by decide +kernel))
    have mF_20 := SFm_of cF_20 oz_F4cls_21
    have cA_20 : SA oz_F4clsl_12 A A_20 := SA_trans (cA9) hA_20 (any_subA (by decide +kernel))
    have mA_20 := SAm_of cA_20 oz_F4cls_28
    have r14 : (-2147483648 : Int) ≤ y20_1_1 ∧ y20_1_1 ≤ 2147483647 := rngE (show (-2147483648 : Int) ≤ F_20 1 1 ∧ F_20 1 1 ≤ 2147483647 from H.krg 1 1 (ltn len_V105_Row_oz_F4cls rfl)) (show F_20 1 1 = y20_1_1 from (ey20_1_1))
    have r15 : (0 : Int) ≤ y20_1_2 ∧ y20_1_2 ≤ 1 := rngE (show (0 : Int) ≤ F_20 1 2 ∧ F_20 1 2 ≤ 1 from H.krg 1 2 (ltn len_V105_Row_oz_F4cls rfl)) (show F_20 1 2 = y20_1_2 from (ey20_1_2))
    have r16 : (-2147483648 : Int) ≤ y20_1_3 ∧ y20_1_3 ≤ 2147483647 := rngE (show (-2147483648 : Int) ≤ F_20 1 3 ∧ F_20 1 3 ≤ 2147483647 from H.krg 1 3 (ltn len_V105_Row_oz_F4cls rfl)) (show F_20 1 3 = y20_1_3 from (ey20_1_3))
    have r17 : (-2147483648 : Int) ≤ y20_1_4 ∧ y20_1_4 ≤ 2147483647 := rngE (show (-2147483648 : Int) ≤ F_20 1 4 ∧ F_20 1 4 ≤ 2147483647 from H.krg 1 4 (ltn len_V105_Row_oz_F4cls rfl)) (show F_20 1 4 = y20_1_4 from (ey20_1_4))
    have j20_w : RBB ((y20_1_2)) ((w20_2)) ((y20_1_1)) ((y20_1_3)) ((y20_1_4)) [] (btw (127 + (a2)) 8 ++ drP ((w3)) ((a2)) ((x20_3))) := by assumption
    refine Ew_of (pcₚ := 21) (fun _ => x_iload_n rfl l20_3) ?_
    refine Ew_of (pcₚ := 22) (fun _ => x_iload_n rfl l20_2) ?_
    refine w_icmpge (t := 65) rfl rfl (show inr (x20_3) from j20_0) (show inr (a2) from h0) (fun b18 => ?_) (fun b18 => ?_)
    · have hfin : sc ((w20_2)) 0 ((y20_1_1)) = drB ((w3)) ((a2)) := drB_of j20_w (by omega) (by omega) (by omega) (by omega) (fun s x y => by have := hwg s x y; omega)
      have hbu := j20_w.1
      have hp0 : p2 (0 : Int) = 1 := by decide
      have hhz : (y20_1_4) = 0 := by omega
      have hhh : (y20_1_3) = 0 := by have h : (y20_1_3) < p2 ((y20_1_4)) := (by omega); rw [hhz, hp0] at h; omega
      exact w_ret rfl (k _ _ _ _ _ _ _ H O (cD7) (cN7) (cF_20) (cA_20) ((((hS_20 1 0 rfl).trans ((show F9 1 0 = F7 1 0 from (eF9 1 0).trans (hS9 0 0 rfl))))).trans (pf7_1_0)) (m7_1) ((congrArg (fun q : Nat => (q : Int)) (eN7 2)).trans em7_1) (y20_1_1) ((ey20_1_1)) (y20_1_2) ((ey20_1_2)) (y20_1_3) ((ey20_1_3)) (y20_1_4) ((ey20_1_4)) (w20_2) (ew20_2) (show 0 ≤ (y20_1_1) ∧ (y20_1_1) ≤ (m7_1) ∧ (m7_1) ≤ 65536 from j20_3) (show 0 ≤ (y20_1_4) ∧ (y20_1_4) ≤ 7 from j20_4) (show (u1_1) ≤ (y20_1_1) from j20_5) (show (y20_1_4) = 0 ∧ (y20_1_3) = 0 ∧ (y20_1_2) = 0 by omega) (hfin))
    · refine Ew_of (pcₚ := 26) (fun _ => x_aload_n rfl l20_1) ?_
      refine Ew_of (pcₚ := 27) (fun _ => x_aload_n rfl l20_0) ?_
      refine v_g H (o := 0) (v := .ref (D7 3)) rfl rfl rfl rfl rfl (vrf ((mF_20 0 4 rfl).trans ((pf3).trans (congrArg (fun q : Nat => (q : Int)) (mD7 3 rfl).symm)))) ?_
      refine Ew_of (pcₚ := 31) (fun _ => x_iload_n rfl l20_3) ?_
      refine v_lI H (o := 3) rfl rfl rfl rfl (n := n3) ((congrArg (fun q : Nat => (q : Int)) (mN7 3 rfl)).trans (en3)) (show 0 ≤ x20_3 ∧ x20_3 < n3 from q_3769 b18 h3 h4 j20_1 r6) (fun v19 ev19 qv19 => ?_)
      have ev19 : (w3) (x20_3) = v19 := (congrFun ((funext (mA_20 3 rfl)).trans (ew3)) (x20_3)).symm.trans ev19
      have hwx := hwg ((x20_3)) (by omega) (by omega)
      have hex := ev19
      rw [hex] at hwx
      obtain ⟨xv, hxv⟩ : ∃ x : Int, x = (v19) := ⟨_, rfl⟩
      have hxx : ((w3)) ((x20_3)) = xv := by rw [hxv]; exact hex
      refine Ew_of (pcₚ := 33) (fun _ => x_iconst rfl) ?_
      refine w_ishlE rfl ?_
      have g20 : inr (slI (v19) (4)) := toI_inr _
      refine Ew_of (pcₚ := 35) (fun _ => x_iload_n rfl l20_3) ?_
      refine Ew_of (pcₚ := 36) (fun _ => x_iconst rfl) ?_
      refine w_iadd rfl ?_
      refine Ew_of (pcₚ := 38) (fun _ => x_iload_n rfl l20_2) ?_
      have hc53 : ∀ (tc53_0 : Int), ∀ (ls : rO) (σ : rS) (F_c53 : hF) (A_c53 : hA) , rlook ls 0 = some (.ref (D7 0)) → rlook ls 1 = some (.ref (D7 1)) → rlook ls 2 = some (I (a2)) → rlook ls 3 = some (I (x20_3)) → HW V105_Row σ D7 N7 F_c53 A_c53 → OUT (V105_Row).length D N σE c s D7 N7 σ (c + c7) (s + s7) → SF [] F_20 F_c53 → SA [] A_20 A_c53 → (inr (tc53_0)) → (0 ≤ (tc53_0) ∧ (tc53_0) ≤ 15) → (((x20_3) + 1 < (a2) ∧ ((w3)) ((x20_3) + 1) = (tc53_0) ∨ (a2) ≤ (x20_3) + 1 ∧ ((tc53_0) : Int) = 0)) → Ew 105 (d + 2) 53 ls [I (tc53_0), I ((slI (v19) (4))), .ref (D7 1)] σ (c + c7) (s + s7) Q := by
       as_aux_lemma =>
        intro tc53_0 ls σ F_c53 A_c53  lc53_0 lc53_1 lc53_2 lc53_3 H O hS_c53 hA_c53     jc53_0 jc53_1 jc53_2
        have cF_c53 : SF oz_F4clsl_9 F F_c53 := SF_trans (cF_20) hS_c53 (any_sub (by decide +kernel))
        have mF_c53 := SFm_of cF_c53 oz_F4cls_21
        have cA_c53 : SA oz_F4clsl_12 A A_c53 := SA_trans (cA_20) hA_c53 (any_subA (by decide +kernel))
        have mA_c53 := SAm_of cA_c53 oz_F4cls_28
        have hyj : ((x20_3) + 1 < (a2) ∧ ((w3)) ((x20_3) + 1) = (tc53_0) ∨ (a2) ≤ (x20_3) + 1 ∧ ((tc53_0) : Int) = 0) := jc53_2
        obtain ⟨yv, hyv⟩ : ∃ y : Int, y = (tc53_0) := ⟨_, rfl⟩
        have hyc : (x20_3) + 1 < (a2) ∧ ((w3)) ((x20_3) + 1) = yv ∨ (a2) ≤ (x20_3) + 1 ∧ yv = 0 := by rw [hyv]; exact hyj
        refine w_iorE rfl ?_
        have g21 : inr (orI ((slI (v19) (4))) (tc53_0)) := toI_inr _
        obtain ⟨qv, hqv⟩ : ∃ q : Int, q = ((orI ((slI (v19) (4))) (tc53_0))) := ⟨_, rfl⟩
        rw [← hqv]
        have gqv : inr qv := by rw [hqv]; assumption
        replace hqv : IMP True (qv = ((orI ((slI (v19) (4))) (tc53_0)))) := fun _ => hqv
        try clear g21
        try clear g20
        refine Ew_of (pcₚ := 56) (fun _ => x_bipush (z := 8) rfl (by decide)) ?_
        have hqw : qv = 16 * xv + yv := (hqv trivial).trans (by rw [hxv, hyv]; exact orI_84 (by omega) (by omega))
        refine v_inv H (o := 1) rfl rfl rfl rfl rfl rfl (by rfl) (C164 (D := puc 1025 D7) (N := puc 1025 N7) (HW_subc H oz_F4cls_27 oz_F4cls_29) (((((hS_c53 1 0 rfl).trans (hS_20 1 0 rfl)).trans ((show F9 1 0 = F7 1 0 from (eF9 1 0).trans (hS9 0 0 rfl))))).trans (pf7_1_0)) (m7_1) ((congrArg (fun q : Nat => (q : Int)) (eN7 2)).trans em7_1) (y20_1_1) (((hS_c53 1 1 rfl).trans (ey20_1_1))) (y20_1_2) (((hS_c53 1 2 rfl).trans (ey20_1_2))) (y20_1_3) (((hS_c53 1 3 rfl).trans (ey20_1_3))) (y20_1_4) (((hS_c53 1 4 rfl).trans (ey20_1_4))) (w20_2) ((funext (hA_c53 2 rfl)).trans (ew20_2)) (show inr (qv) from gqv) (show inr (8) from q_141) (show 0 ≤ (y20_1_1) ∧ (y20_1_1) ≤ (m7_1) ∧ (m7_1) ≤ 65536 from j20_3) (show 0 ≤ (8) ∧ (8) ≤ 31 from q_2497) (show 0 ≤ (y20_1_4) ∧ (y20_1_4) ≤ 7 from j20_4) (fun σ22 F22ₚ A22ₚ Hₚ Oₚ hS22 hA22 y22_0_1 ey22_0_1 y22_0_2 ey22_0_2 y22_0_3 ey22_0_3 y22_0_4 ey22_0_4 w22_1 ew22_1 pz22_0 pz22_1 pz22_2 pz22_3 => ⟨rfl, ?_⟩))
        refine v_backc (c := (c + c7)) (s := (s + s7)) H oz_F4cls_27 oz_F4cls_29 Hₚ Oₚ (fun F22 A22 H Oₚ eF22 eA22 => ?_)
        have O := OUT_trans O Oₚ
        -- Row.addBits
        have cF22 : SF oz_F4clsl_9 F F22 := SF_trans (cF_c53) (SF_gluc (ι := oz_F4clsl_13) oz_F4cls_29 hS22 eF22 (by decide +kernel)) (any_sub (lₚ := [(1, 1), (1, 2), (1, 3), (1, 4)]) (by decide +kernel))
        have mF22 := SFm_of cF22 oz_F4cls_21
        have cA22 : SA oz_F4clsl_12 A A22 := SA_trans (cA_c53) (SA_gluc (ι := oz_F4clsl_13) oz_F4cls_29 hA22 eA22 (by decide +kernel)) (any_subA (lₚ := [2]) (by decide +kernel))
        have mA22 := SAm_of cA22 oz_F4cls_28
        have r23 : (-2147483648 : Int) ≤ y22_0_1 ∧ y22_0_1 ≤ 2147483647 := rngE (show (-2147483648 : Int) ≤ F22 1 1 ∧ F22 1 1 ≤ 2147483647 from H.krg 1 1 (ltn len_V105_Row_oz_F4cls rfl)) (show F22 1 1 = y22_0_1 from ((eF22 1 1).trans ey22_0_1))
        have r24 : (0 : Int) ≤ y22_0_2 ∧ y22_0_2 ≤ 1 := rngE (show (0 : Int) ≤ F22 1 2 ∧ F22 1 2 ≤ 1 from H.krg 1 2 (ltn len_V105_Row_oz_F4cls rfl)) (show F22 1 2 = y22_0_2 from ((eF22 1 2).trans ey22_0_2))
        have r25 : (-2147483648 : Int) ≤ y22_0_3 ∧ y22_0_3 ≤ 2147483647 := rngE (show (-2147483648 : Int) ≤ F22 1 3 ∧ F22 1 3 ≤ 2147483647 from H.krg 1 3 (ltn len_V105_Row_oz_F4cls rfl)) (show F22 1 3 = y22_0_3 from ((eF22 1 3).trans ey22_0_3))
        have r26 : (-2147483648 : Int) ≤ y22_0_4 ∧ y22_0_4 ≤ 2147483647 := rngE (show (-2147483648 : Int) ≤ F22 1 4 ∧ F22 1 4 ≤ 2147483647 from H.krg 1 4 (ltn len_V105_Row_oz_F4cls rfl)) (show F22 1 4 = y22_0_4 from ((eF22 1 4).trans ey22_0_4))
        have ha59 := pz22_3 ⟨by omega, by omega, by omega, by omega⟩
        have hB59 : RBB ((y22_0_2)) ((w22_1)) ((y22_0_1)) ((y22_0_3)) ((y22_0_4)) [] (btw (127 + (a2)) 8 ++ drP ((w3)) ((a2)) ((x20_3) + 2)) := by have h := ha59.1 _ _ j20_w; rw [drP_s (w := ((w3))) (k := (a2)) (i := (x20_3)) (j := (x20_3) + 2) (by omega) (by omega) rfl hxx hyc, ← List.append_assoc, ← hqw]; exact h
        have hn59 := ha59.2.1
        have hm59 := ha59.2.2
        refine Ew_of (pcₚ := 62) (fun _ => x_iinc (len := 3) rfl (lc53_3)) ?_
        refine Ew_of (pcₚ := 20) (fun _ => x_goto rfl rfl) ?_
        have : RBB ((y22_0_2)) ((w22_1)) ((y22_0_1)) ((y22_0_3)) ((y22_0_4)) [] (btw (127 + (a2)) 8 ++ drP ((w3)) ((a2)) (((x20_3 + 2)))) := hB59
        exact ih20 _ (msE hm20 q_3772 (q_17 b18)) _ _ _ _ ((x20_3 + 2)) (rk_o (lc53_0) rfl rfl) (rk_o (lc53_1) rfl rfl) (rk_o (lc53_2) rfl rfl) (rk_s) H O (SF_trans (SF_trans (hS_20) hS_c53 (any_sub (by decide +kernel))) (SF_gluc (ι := oz_F4clsl_13) oz_F4cls_29 hS22 eF22 (by decide +kernel)) (any_sub (lₚ := [(1, 1), (1, 2), (1, 3), (1, 4)]) (by decide +kernel))) (SA_trans (SA_trans (hA_20) hA_c53 (any_subA (by decide +kernel))) (SA_gluc (ι := oz_F4clsl_13) oz_F4cls_29 hA22 eA22 (by decide +kernel)) (any_subA (lₚ := [2]) (by decide +kernel)))   (y22_0_1) (((eF22 1 1).trans ey22_0_1)) (y22_0_2) (((eF22 1 2).trans ey22_0_2)) (y22_0_3) (((eF22 1 3).trans ey22_0_3)) (y22_0_4) (((eF22 1 4).trans ey22_0_4)) (w22_1) ((eA22 2).trans ew22_1) (show inr ((x20_3 + 2)) from q_3771 b18 h3 j20_1) (show 0 ≤ ((x20_3 + 2)) ∧ ((x20_3 + 2)) ≤ (a2) + 1 from q_3770 b18 j20_1) (show ((x20_3 + 2)) % 2 = 0 by omega) (show 0 ≤ (y22_0_1) ∧ (y22_0_1) ≤ (m7_1) ∧ (m7_1) ≤ 65536 from pz22_0) (show 0 ≤ (y22_0_4) ∧ (y22_0_4) ≤ 7 from pz22_2) (show (u1_1) ≤ (y22_0_1) from q_2270 j20_5 pz22_1) (show 1 + (a2) ≤ (m7_1) from j20_6) (show 0 ≤ (y22_0_3) ∧ (y22_0_3) < p2 ((y22_0_4)) by omega) (show 8 * (y22_0_1) + (y22_0_4) = 8 + 4 * ((x20_3 + 2)) by omega) (hB59) rfl
      refine w_icmpge (t := 52) rfl rfl (show inr ((x20_3 + 1)) from q_3773 b18 h3 j20_1) (show inr (a2) from h0) (fun b27 => ?_) (fun b27 => ?_)
      · refine Ew_of (pcₚ := 53) (fun _ => x_iconst rfl) ?_
        have : ((x20_3) + 1 < (a2) ∧ ((w3)) ((x20_3) + 1) = (0) ∨ (a2) ≤ (x20_3) + 1 ∧ ((0) : Int) = 0) := by exact .inr ⟨by omega, rfl⟩
        exact hc53 (0) _ _ _ _  (l20_0) (l20_1) (l20_2) (l20_3) H O (SF_refl) (SA_refl)     (show inr (0) from q_2) (show 0 ≤ (0) ∧ (0) ≤ 15 from q_3774) (show ((x20_3) + 1 < (a2) ∧ ((w3)) ((x20_3) + 1) = (0) ∨ (a2) ≤ (x20_3) + 1 ∧ ((0) : Int) = 0) by assumption)
      · refine Ew_of (pcₚ := 42) (fun _ => x_aload_n rfl l20_0) ?_
        refine v_g H (o := 0) (v := .ref (D7 3)) rfl rfl rfl rfl rfl (vrf ((mF_20 0 4 rfl).trans ((pf3).trans (congrArg (fun q : Nat => (q : Int)) (mD7 3 rfl).symm)))) ?_
        refine Ew_of (pcₚ := 46) (fun _ => x_iload_n rfl l20_3) ?_
        refine Ew_of (pcₚ := 47) (fun _ => x_iconst rfl) ?_
        refine w_iadd rfl ?_
        refine v_lI H (o := 3) rfl rfl rfl rfl (n := n3) ((congrArg (fun q : Nat => (q : Int)) (mN7 3 rfl)).trans (en3)) (show 0 ≤ (x20_3 + 1) ∧ (x20_3 + 1) < n3 from q_3775 b27 h3 h4 j20_1 r6) (fun v28 ev28 qv28 => ?_)
        have ev28 : (w3) ((x20_3 + 1)) = v28 := (congrFun ((funext (mA_20 3 rfl)).trans (ew3)) ((x20_3 + 1))).symm.trans ev28
        have hwy := hwg ((x20_3) + 1) (by omega) (by omega)
        have hy49 := ev28
        rw [hy49] at hwy
        refine Ew_of (pcₚ := 53) (fun _ => x_goto rfl rfl) ?_
        have : ((x20_3) + 1 < (a2) ∧ ((w3)) ((x20_3) + 1) = (v28) ∨ (a2) ≤ (x20_3) + 1 ∧ ((v28) : Int) = 0) := by exact .inl ⟨by omega, hy49⟩
        exact hc53 (v28) _ _ _ _  (l20_0) (l20_1) (l20_2) (l20_3) H O (SF_refl) (SA_refl)     (show inr (v28) from qv28) (show 0 ≤ (v28) ∧ (v28) ≤ 15 by omega) (show ((x20_3) + 1 < (a2) ∧ ((w3)) ((x20_3) + 1) = (v28) ∨ (a2) ≤ (x20_3) + 1 ∧ ((v28) : Int) = 0) by assumption)

