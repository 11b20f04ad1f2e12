abbrev V213 : vV := []
theorem len_V213_oz_D5cls : (V213).length = 0 := by decide +kernel
/-- Tokens.areFlags:  -/
theorem C213 {σE : rS} {D N : Nat → Nat} {F : hF} {A : hA} {d c s : Nat} {Q : wQ} (H : HW V213 σE D N F A) {a1 : Int} (h0 : inr (a1)) (k : ∀ (z : Int) (σ : rS) (Fₚ : hF) (Aₚ : hA), HW V213 σ D N Fₚ Aₚ → OUT (V213).length D N σE c s D N σ c s → SF [] F Fₚ → SA [] A Aₚ → ((z) = 0 ∨ (z) = 1) → Q (some (I z)) σ c s) : Ew 213 (d + 0) 0 (rargs 0 [I a1]) [] σE c s Q := by
  have O := OUT_refl (n := (V213).length) (D := D) (N := N) (σ := σE) (c := c) (s := s)
  have HE := H
  refine Ew_of (pcₚ := 1) (fun _ => x_iload_n rfl rfl) ?_
  refine Ew_of (pcₚ := 3) (fun _ => x_bipush (z := -62) rfl (by decide)) ?_
  refine w_iand rfl (show inr (a1) from h0) (show inr ((-62)) from q_2924) (fun z1 gz1 gaz1 gbz1 => ?_)
  refine Ew_of (pcₚ := 6) (fun _ => x_bipush (z := 64) rfl (by decide)) ?_
  refine w_icmpne (t := 13) rfl rfl (show inr (z1) from gz1) (show inr (64) from q_51) (fun b2 => ?_) (fun b2 => ?_)
  · refine Ew_of (pcₚ := 14) (fun _ => x_iconst rfl) ?_
    exact w_ireturn rfl (k (0) _ _ _ H O (SF_refl) (SA_refl) (show (0) = 0 ∨ (0) = 1 by first | exact q_1 | omega))
  · refine Ew_of (pcₚ := 10) (fun _ => x_iconst rfl) ?_
    refine Ew_of (pcₚ := 14) (fun _ => x_goto rfl rfl) ?_
    exact w_ireturn rfl (k (1) _ _ _ H O (SF_refl) (SA_refl) (show (1) = 0 ∨ (1) = 1 by first | exact q_5 | omega))
abbrev V227 : vV := [(0, 11, [(4, 0), (4, 0), (4, 0), (4, 0), (4, 0), (0, 0), (4, 0), (0, 0), (0, 0), (0, 0), (0, 0), (0, 0), (0, 0)]), (1, 0, []), (0, 7, [(4, 0), (0, 0), (1, 0), (0, 0), (0, 0)]), (1, 0, [])]
theorem len_V227_oz_D5cls : (V227).length = 4 := by decide +kernel
theorem oz_D5cls_2 : vsub V227 V41_Br [1] = true := by decide +kernel
theorem oz_D5cls_3 : vsub V227 V213 [] = true := by decide +kernel
theorem oz_D5cls_4 : vsub V227 V221 [0] = true := by decide +kernel
theorem oz_D5cls_5 : vsub V227 V49_Br [1] = true := by decide +kernel
def oz_D5clsl_0 : List (Nat × Nat) := [(0, 8), (0, 9), (0, 10), (0, 12)]
theorem oz_D5cls_6 : (oz_D5clsl_0).all (fun p => !tbz 5888 (Nat.add (Nat.mul 32 p.1) p.2)) = true := by decide +kernel
def oz_D5clsl_1 : List Nat := []
theorem oz_D5cls_7 : (oz_D5clsl_1).all (fun p => !tbz 0 p) = true := by decide +kernel
def oz_D5clsl_2 : List Nat := [1]
theorem oz_D5cls_8 : okc oz_D5clsl_2 1 = true := by decide +kernel
theorem oz_D5cls_9 : okc oz_D5clsl_1 0 = true := by decide +kernel
def oz_D5clsl_3 : List Nat := [0]
theorem oz_D5cls_10 : okc oz_D5clsl_3 0 = true := by decide +kernel
/-- Tokens.unpackHead: this, this.in, this.result, this.result.bytes -/
theorem C227 {σE : rS} {D N : Nat → Nat} {F : hF} {A : hA} {d c s : Nat} {Q : wQ} (H : HW V227 σE D N F A) {a1 : Int} (pf1 : F 0 4 = (D 1 : Int)) (pf2 : F 0 6 = (D 2 : Int)) (pf3 : F 2 0 = (D 3 : Int)) (n1 : Int) (en1 : (N 1 : Int) = n1) (n3 : Int) (en3 : (N 3 : Int) = n3) (u0_5 : Int) (eu0_5 : F 0 5 = u0_5) (u0_8 : Int) (eu0_8 : F 0 8 = u0_8) (u0_9 : Int) (eu0_9 : F 0 9 = u0_9) (u0_10 : Int) (eu0_10 : F 0 10 = u0_10) (u0_12 : Int) (eu0_12 : F 0 12 = u0_12) (u2_1 : Int) (eu2_1 : F 2 1 = u2_1) (h0 : inr (a1)) (h1 : 0 ≤ (u0_5) ∧ (u0_5) ≤ (n1) ∧ (n1) ≤ 65536) (h2 : 0 ≤ (a1) ∧ (a1) + 4 ≤ (u0_5)) (h3 : 0 ≤ (u2_1) ∧ (u2_1) ≤ (n3) ∧ (n3) ≤ 65536) (k : ∀ (z : Int) (σ : rS) (Fₚ : hF) (Aₚ : hA), HW V227 σ D N Fₚ Aₚ → OUT (V227).length D N σE c s D N σ c s → SF [(0, 8), (0, 9), (0, 10), (0, 12)] F Fₚ → SA [] A Aₚ → ∀ y0_8 : Int, Fₚ 0 8 = y0_8 → ∀ y0_9 : Int, Fₚ 0 9 = y0_9 → ∀ y0_10 : Int, Fₚ 0 10 = y0_10 → ∀ y0_12 : Int, Fₚ 0 12 = y0_12 → (inr (z)) → (0 ≤ (z) ∧ (z) ≤ 6) → ((z) = 0 → (a1) + 7 ≤ (y0_12) ∧ (y0_12) ≤ (u0_5) ∧ (y0_10) = (u2_1) ∧ 0 ≤ (y0_9) ∧ (y0_9) ≤ 4194304) → ((z) = 0 → andI ((y0_8)) 8 = 0 ∨ (a1) + 14 ≤ (u0_5)) → Q (some (I z)) σ c s) : Ew 227 (d + 3) 0 (rargs 0 [.ref (D 0), I a1]) [] σE c s Q := by
  have O := OUT_refl (n := (V227).length) (D := D) (N := N) (σ := σE) (c := c) (s := s)
  have HE := H
  have r1 : (-2147483648 : Int) ≤ u0_5 ∧ u0_5 ≤ 2147483647 := rngE (show (-2147483648 : Int) ≤ F 0 5 ∧ F 0 5 ≤ 2147483647 from H.krg 0 5 (ltn len_V227_oz_D5cls rfl)) (show F 0 5 = u0_5 from (eu0_5))
  have r2 : (-2147483648 : Int) ≤ u0_8 ∧ u0_8 ≤ 2147483647 := rngE (show (-2147483648 : Int) ≤ F 0 8 ∧ F 0 8 ≤ 2147483647 from H.krg 0 8 (ltn len_V227_oz_D5cls rfl)) (show F 0 8 = u0_8 from (eu0_8))
  have r3 : (-2147483648 : Int) ≤ u0_9 ∧ u0_9 ≤ 2147483647 := rngE (show (-2147483648 : Int) ≤ F 0 9 ∧ F 0 9 ≤ 2147483647 from H.krg 0 9 (ltn len_V227_oz_D5cls rfl)) (show F 0 9 = u0_9 from (eu0_9))
  have r4 : (-2147483648 : Int) ≤ u0_10 ∧ u0_10 ≤ 2147483647 := rngE (show (-2147483648 : Int) ≤ F 0 10 ∧ F 0 10 ≤ 2147483647 from H.krg 0 10 (ltn len_V227_oz_D5cls rfl)) (show F 0 10 = u0_10 from (eu0_10))
  have r5 : (-2147483648 : Int) ≤ u0_12 ∧ u0_12 ≤ 2147483647 := rngE (show (-2147483648 : Int) ≤ F 0 12 ∧ F 0 12 ≤ 2147483647 from H.krg 0 12 (ltn len_V227_oz_D5cls rfl)) (show F 0 12 = u0_12 from (eu0_12))
  have r6 : (-2147483648 : Int) ≤ u2_1 ∧ u2_1 ≤ 2147483647 := rngE (show (-2147483648 : Int) ≤ F 2 1 ∧ F 2 1 ≤ 2147483647 from H.krg 2 1 (ltn len_V227_oz_D5cls rfl)) (show F 2 1 = u2_1 from (eu2_1))
  have r7 : (0 : Int) ≤ n1 ∧ n1 ≤ 1000000 := nleE (H.nle 1 (ltn len_V227_oz_D5cls rfl)) (show (N 1 : Int) = n1 from en1)
  have r8 : (0 : Int) ≤ n3 ∧ n3 ≤ 1000000 := nleE (H.nle 3 (ltn len_V227_oz_D5cls rfl)) (show (N 3 : Int) = n3 from en3)
  refine Ew_of (pcₚ := 1) (fun _ => x_aload_n rfl rfl) ?_
  refine v_g H (o := 0) (v := .ref (D 1)) rfl rfl rfl rfl rfl (vrf (pf1)) ?_
  refine Ew_of (pcₚ := 5) (fun _ => x_iload_n rfl rfl) ?_
  refine w_stat25 rfl rfl (by rfl) (C41_Br (D := puc 1 D) (N := puc 1 N) (HW_subc H oz_D5cls_2 oz_D5cls_8) (n1) (en1) (show inr (a1) from h0) (show 0 ≤ (a1) ∧ (a1) + 4 ≤ (n1) from q_2925 h1 h2) (fun z9 σ9 F9ₚ A9ₚ Hₚ Oₚ hS9 hA9 pz9_0 => ⟨rfl, ?_⟩))
  refine v_backc (c := c) (s := s) H oz_D5cls_2 oz_D5cls_8 Hₚ Oₚ (fun F9 A9 H Oₚ eF9 eA9 => ?_)
  have O := OUT_trans O Oₚ
  -- PackHouse.word
  have cF9 : SF oz_D5clsl_0 F F9 := SF_trans (SF_refl) (SF_gluc (ι := oz_D5clsl_2) oz_D5cls_8 hS9 eF9 (by decide +kernel)) (any_sub (lₚ := []) (by decide +kernel))
  have mF9 := SFm_of cF9 oz_D5cls_6
  have cA9 : SA oz_D5clsl_1 A A9 := SA_trans (SA_refl) (SA_gluc (ι := oz_D5clsl_2) oz_D5cls_8 hA9 eA9 (by decide +kernel)) (any_subA (lₚ := []) (by decide +kernel))
  have mA9 := SAm_of cA9 oz_D5cls_7
  refine Ew_of (pcₚ := 10) (fun _ => x_ldc (z := 407708164) rfl (by decide)) ?_
  refine w_icmpeq (t := 20) rfl rfl (show inr (z9) from pz9_0) (show inr (407708164) from q_2926) (fun b10 => ?_) (fun b10 => ?_)
  · refine Ew_of (pcₚ := 21) (fun _ => x_aload_n rfl rfl) ?_
    refine v_g H (o := 0) (v := I (u0_5)) rfl rfl rfl rfl rfl (congrArg (fun z : Int => I z) (((mF9 0 5 rfl).trans (eu0_5)) : F9 0 5 = u0_5)) ?_
    refine Ew_of (pcₚ := 25) (fun _ => x_iload_n rfl rfl) ?_
    refine w_isub rfl ?_
    refine Ew_of (pcₚ := 27) (fun _ => x_iconst rfl) ?_
    refine w_icmpge (t := 40) rfl rfl (show inr ((u0_5 - a1)) from q_2927 h1 h2) (show inr (5) from q_509) (fun b11 => ?_) (fun b11 => ?_)
    · refine Ew_of (pcₚ := 41) (fun _ => x_aload_n rfl rfl) ?_
      refine Ew_of (pcₚ := 42) (fun _ => x_aload_n rfl rfl) ?_
      refine v_g H (o := 0) (v := .ref (D 1)) rfl rfl rfl rfl rfl (vrf ((mF9 0 4 rfl).trans (pf1))) ?_
      refine Ew_of (pcₚ := 46) (fun _ => x_iload_n rfl rfl) ?_
      refine Ew_of (pcₚ := 47) (fun _ => x_iconst rfl) ?_
      refine w_iadd rfl ?_
      refine v_lB H (o := 1) rfl rfl rfl rfl (n := n1) (en1) (show 0 ≤ (a1 + 4) ∧ (a1 + 4) < n1 from q_2928 b11 h1 h2) (fun v12 ev12 qv12 => ?_)
      have ev12 : (A 1) ((a1 + 4)) = v12 := (congrFun (funext (mA9 1 rfl)) ((a1 + 4))).symm.trans ev12
      refine Ew_of (pcₚ := 52) (fun _ => x_sipush (z := 255) rfl (by decide)) ?_
      refine w_iand rfl (show inr (v12) from q_2536 qv12) (show inr (255) from q_36) (fun z13 gz13 gaz13 gbz13 => ?_)
      refine v_p H (o := 0) (z := z13) (v := I (z13)) rfl rfl rfl rfl rfl rfl rfl rfl (show (-2147483648 : Int) ≤ z13 ∧ z13 ≤ 2147483647 from q_61 gz13) (fun σ H Oₚ => ?_)
      have O := OUT_trans O Oₚ
      have cFu14 : SF oz_D5clsl_0 F (updF F9 0 8 (z13)) := SF_upd (cF9) rfl
      have mFu14 := SFm_of cFu14 oz_D5cls_6
      refine Ew_of (pcₚ := 57) (fun _ => x_aload_n rfl rfl) ?_
      refine v_g H (o := 0) (v := I (z13)) rfl rfl rfl rfl rfl (congrArg (fun z : Int => I z) (rfl : (updF F9 0 8 (z13)) 0 8 = z13)) ?_
      refine w_stat24 rfl rfl (by rfl) (C213 (D := puc 0 D) (N := puc 0 N) (HW_subc H oz_D5cls_3 oz_D5cls_9) (show inr (z13) from gz13) (fun z15 σ15 F15ₚ A15ₚ Hₚ Oₚ hS15 hA15 pz15_0 => ⟨rretB rfl pz15_0, ?_⟩))
      refine v_backc (c := c) (s := s) H oz_D5cls_3 oz_D5cls_9 Hₚ Oₚ (fun F15 A15 H Oₚ eF15 eA15 => ?_)
      have O := OUT_trans O Oₚ
      -- Tokens.areFlags
      have cF15 : SF oz_D5clsl_0 F F15 := SF_trans (cFu14) (SF_gluc (ι := oz_D5clsl_1) oz_D5cls_9 hS15 eF15 (by decide +kernel)) (any_sub (lₚ := []) (by decide +kernel))
      have mF15 := SFm_of cF15 oz_D5cls_6
      have cA15 : SA oz_D5clsl_1 A A15 := SA_trans (cA9) (SA_gluc (ι := oz_D5clsl_1) oz_D5cls_9 hA15 eA15 (by decide +kernel)) (any_subA (lₚ := []) (by decide +kernel))
      have mA15 := SAm_of cA15 oz_D5cls_7
      refine w_ifne (t := 75) rfl rfl (show inr (z15) from q_15 pz15_0) (fun b16 => ?_) (fun b16 => ?_)
      · refine Ew_of (pcₚ := 76) (fun _ => x_aload_n rfl rfl) ?_
        refine v_g H (o := 0) (v := I (u0_5)) rfl rfl rfl rfl rfl (congrArg (fun z : Int => I z) (((mF15 0 5 rfl).trans (eu0_5)) : F15 0 5 = u0_5)) ?_
        refine Ew_of (pcₚ := 80) (fun _ => x_iload_n rfl rfl) ?_
        refine w_isub rfl ?_
        refine Ew_of (pcₚ := 83) (fun _ => x_bipush (z := 6) rfl (by decide)) ?_
        refine w_icmpge (t := 96) rfl rfl (show inr ((u0_5 - a1)) from q_2929 b11 h1 h2) (show inr (6) from q_545) (fun b17 => ?_) (fun b17 => ?_)
        · refine Ew_of (pcₚ := 97) (fun _ => x_aload_n rfl rfl) ?_
          refine v_g H (o := 0) (v := .ref (D 1)) rfl rfl rfl rfl rfl (vrf ((mF15 0 4 rfl).trans (pf1))) ?_
          refine Ew_of (pcₚ := 101) (fun _ => x_iload_n rfl rfl) ?_
          refine Ew_of (pcₚ := 102) (fun _ => x_iconst rfl) ?_
          refine w_iadd rfl ?_
          refine v_lB H (o := 1) rfl rfl rfl rfl (n := n1) (en1) (show 0 ≤ (a1 + 5) ∧ (a1 + 5) < n1 from q_2930 b17 h1 h2) (fun v18 ev18 qv18 => ?_)
          have ev18 : (A 1) ((a1 + 5)) = v18 := (congrFun (funext (mA15 1 rfl)) ((a1 + 5))).symm.trans ev18
          refine Ew_of (pcₚ := 107) (fun _ => x_sipush (z := 255) rfl (by decide)) ?_
          refine w_iand rfl (show inr (v18) from q_2536 qv18) (show inr (255) from q_36) (fun z19 gz19 gaz19 gbz19 => ?_)
          refine Ew_of (pcₚ := 109) (fun _ => x_iconst rfl) ?_
          refine w_ishrK 4 16 (by decide) (by decide) rfl (show inr (z19) from gz19) (fun z20 gz20 dz20 => ?_)
          refine Ew_of (pcₚ := 111) (fun _ => x_istore_n rfl) ?_
          refine Ew_of (pcₚ := 112) (fun _ => x_aload_n rfl (rk_o (rfl) rfl rfl)) ?_
          refine v_g H (o := 0) (v := .ref (D 1)) rfl rfl rfl rfl rfl (vrf ((mF15 0 4 rfl).trans (pf1))) ?_
          refine Ew_of (pcₚ := 116) (fun _ => x_iload_n rfl (rk_o (rfl) rfl rfl)) ?_
          refine Ew_of (pcₚ := 117) (fun _ => x_iconst rfl) ?_
          refine w_iadd rfl ?_
          refine v_lB H (o := 1) rfl rfl rfl rfl (n := n1) (en1) (show 0 ≤ (a1 + 5) ∧ (a1 + 5) < n1 from q_2930 b17 h1 h2) (fun v21 ev21 qv21 => ?_)
          have ev21 : (A 1) ((a1 + 5)) = v21 := (congrFun (funext (mA15 1 rfl)) ((a1 + 5))).symm.trans ev21
          refine Ew_of (pcₚ := 121) (fun _ => x_bipush (z := 15) rfl (by decide)) ?_
          refine w_iand rfl (show inr (v21) from q_2536 qv21) (show inr (15) from q_143) (fun z22 gz22 gaz22 gbz22 => ?_)
          have hc136 : ∀ (ls : rO) (σ : rS) (F_c136 : hF) (A_c136 : hA) , rlook ls 0 = some (.ref (D 0)) → rlook ls 1 = some (I (a1)) → HW V227 σ D N F_c136 A_c136 → OUT (V227).length D N σE c s D N σ c s → SF [] F15 F_c136 → SA [] A15 A_c136 → (((z22) ≠ (0)) ∨ ((z22) = (0) ∧ (z20) < (4)) ∨ ((z22) = (0) ∧ (z20) ≥ (4) ∧ (z20) > (7))) → Ew 227 (d + 3) 136 ls [] σ c s Q := by
           as_aux_lemma =>
            intro  ls σ F_c136 A_c136  lc136_0 lc136_1 H O hS_c136 hA_c136     jc136_0
            have cF_c136 : SF oz_D5clsl_0 F F_c136 := SF_trans (cF15) hS_c136 (any_sub (by decide +kernel))
            have mF_c136 := SFm_of cF_c136 oz_D5cls_6
            have cA_c136 : SA oz_D5clsl_1 A A_c136 := SA_trans (cA15) hA_c136 (any_subA (by decide +kernel))
            have mA_c136 := SAm_of cA_c136 oz_D5cls_7
            refine Ew_of (pcₚ := 137) (fun _ => x_aload_n rfl lc136_0) ?_
            refine Ew_of (pcₚ := 138) (fun _ => x_iconst rfl) ?_
            refine Ew_of (pcₚ := 139) (fun _ => x_iload_n rfl lc136_1) ?_
            refine Ew_of (pcₚ := 140) (fun _ => x_iconst rfl) ?_
            refine w_iadd rfl ?_
            refine v_inv H (o := 0) rfl rfl rfl rfl rfl rfl (by rfl) (C221 (D := puc 0 D) (N := puc 0 N) (HW_subc H oz_D5cls_4 oz_D5cls_10) (u0_12) (((((hS_c136 0 12 rfl).trans ((show F15 0 12 = (updF F9 0 8 (z13)) 0 12 from (eF15 0 12)))).trans ((show F9 0 12 = F 0 12 from (eF9 0 12)))).trans (eu0_12))) (show inr (5) from q_509) (show inr ((a1 + 5)) from q_2931 b17 h1 h2) (fun z23 σ23 F23ₚ A23ₚ Hₚ Oₚ hS23 hA23 y23_0_12 ey23_0_12 pz23_0 pz23_1 pz23_2 => ⟨rfl, ?_⟩))
            refine v_backc (c := c) (s := s) H oz_D5cls_4 oz_D5cls_10 Hₚ Oₚ (fun F23 A23 H Oₚ eF23 eA23 => ?_)
            have O := OUT_trans O Oₚ
            -- Tokens.fail
            have cF23 : SF oz_D5clsl_0 F F23 := SF_trans (cF_c136) (SF_gluc (ι := oz_D5clsl_3) oz_D5cls_10 hS23 eF23 (by decide +kernel)) (any_sub (lₚ := [(0, 12)]) (by decide +kernel))
            have mF23 := SFm_of cF23 oz_D5cls_6
            have cA23 : SA oz_D5clsl_1 A A23 := SA_trans (cA_c136) (SA_gluc (ι := oz_D5clsl_3) oz_D5cls_10 hA23 eA23 (by decide +kernel)) (any_subA (lₚ := []) (by decide +kernel))
            have mA23 := SAm_of cA23 oz_D5cls_7
            have r24 : (-2147483648 : Int) ≤ y23_0_12 ∧ y23_0_12 ≤ 2147483647 := rngE (show (-2147483648 : Int) ≤ F23 0 12 ∧ F23 0 12 ≤ 2147483647 from H.krg 0 12 (ltn len_V227_oz_D5cls rfl)) (show F23 0 12 = y23_0_12 from ((eF23 0 12).trans ey23_0_12))
            exact w_ireturn rfl (k (z23) _ _ _ H O (cF23) (cA23) (z13) (((((show F23 0 8 = F_c136 0 8 from (eF23 0 8).trans (hS23 0 8 rfl))).trans (hS_c136 0 8 rfl)).trans ((show F15 0 8 = (updF F9 0 8 (z13)) 0 8 from (eF15 0 8))))) (u0_9) (((((((show F23 0 9 = F_c136 0 9 from (eF23 0 9).trans (hS23 0 9 rfl))).trans (hS_c136 0 9 rfl)).trans ((show F15 0 9 = (updF F9 0 8 (z13)) 0 9 from (eF15 0 9)))).trans ((show F9 0 9 = F 0 9 from (eF9 0 9)))).trans (eu0_9))) (u0_10) (((((((show F23 0 10 = F_c136 0 10 from (eF23 0 10).trans (hS23 0 10 rfl))).trans (hS_c136 0 10 rfl)).trans ((show F15 0 10 = (updF F9 0 8 (z13)) 0 10 from (eF15 0 10)))).trans ((show F9 0 10 = F 0 10 from (eF9 0 10)))).trans (eu0_10))) (y23_0_12) (((eF23 0 12).trans ey23_0_12)) (show inr (z23) from pz23_0) (show 0 ≤ (z23) ∧ (z23) ≤ 6 from q_2917 pz23_1) (show (z23) = 0 → a1 + 7 ≤ (y23_0_12) ∧ (y23_0_12) ≤ (u0_5) ∧ (u0_10) = (u2_1) ∧ 0 ≤ (u0_9) ∧ (u0_9) ≤ 4194304 from q_2933 b17 h3 pz23_1 pz23_2 r3 r4) (show (z23) = 0 → andI ((z13)) 8 = 0 ∨ a1 + 14 ≤ (u0_5) from q_2932 pz23_1))
          refine w_ifne (t := 136) rfl rfl (show inr (z22) from gz22) (fun b25 => ?_) (fun b25 => ?_)
          · exact hc136  _ _ _ _  (rk_o (rfl) rfl rfl) (rk_o (rfl) rfl rfl) H O (SF_refl) (SA_refl)     (show ((z22) ≠ (0)) ∨ ((z22) = (0) ∧ (z20) < (4)) ∨ ((z22) = (0) ∧ (z20) ≥ (4) ∧ (z20) > (7)) from q_2934 b25)
          · refine Ew_of (pcₚ := 126) (fun _ => x_iload_n rfl rk_s) ?_
            refine Ew_of (pcₚ := 127) (fun _ => x_iconst rfl) ?_
            refine w_icmplt (t := 136) rfl rfl (show inr (z20) from gz20) (show inr (4) from q_2) (fun b26 => ?_) (fun b26 => ?_)
            · exact hc136  _ _ _ _  (rk_o (rfl) rfl rfl) (rk_o (rfl) rfl rfl) H O (SF_refl) (SA_refl)     (show ((z22) ≠ (0)) ∨ ((z22) = (0) ∧ (z20) < (4)) ∨ ((z22) = (0) ∧ (z20) ≥ (4) ∧ (z20) > (7)) from q_2935 b25 b26)
            · refine Ew_of (pcₚ := 131) (fun _ => x_iload_n rfl rk_s) ?_
              refine Ew_of (pcₚ := 133) (fun _ => x_bipush (z := 7) rfl (by decide)) ?_
              refine w_icmple (t := 145) rfl rfl (show inr (z20) from gz20) (show inr (7) from q_355) (fun b27 => ?_) (fun b27 => ?_)
              · refine Ew_of (pcₚ := 146) (fun _ => x_iload_n rfl (rk_o (rfl) rfl rfl)) ?_
                refine Ew_of (pcₚ := 148) (fun _ => x_bipush (z := 6) rfl (by decide)) ?_
                refine w_iadd rfl ?_
                refine Ew_of (pcₚ := 150) (fun _ => x_aload_n rfl (rk_o (rfl) rfl rfl)) ?_
                refine v_g H (o := 0) (v := I (z13)) rfl rfl rfl rfl rfl (congrArg (fun z : Int => I z) (((show F15 0 8 = (updF F9 0 8 (z13)) 0 8 from (eF15 0 8))) : F15 0 8 = z13)) ?_
                refine Ew_of (pcₚ := 155) (fun _ => x_bipush (z := 8) rfl (by decide)) ?_
                refine w_iandE rfl (show inr (z13) from gz13) (show inr (8) from q_96) (fun z28 gz28 gaz28 gbz28 gez28 => ?_)
                refine w_ifeq (t := 164) rfl rfl (show inr (z28) from gz28) (fun b29 => ?_) (fun b29 => ?_)
                · refine Ew_of (pcₚ := 165) (fun _ => x_iconst rfl) ?_
                  refine w_iadd rfl ?_
                  refine Ew_of (pcₚ := 167) (fun _ => x_aload_n rfl (rk_o (rfl) rfl rfl)) ?_
                  refine v_g H (o := 0) (v := I (z13)) rfl rfl rfl rfl rfl (congrArg (fun z : Int => I z) (((show F15 0 8 = (updF F9 0 8 (z13)) 0 8 from (eF15 0 8))) : F15 0 8 = z13)) ?_
                  refine Ew_of (pcₚ := 171) (fun _ => x_iconst rfl) ?_
                  refine w_iand rfl (show inr (z13) from gz13) (show inr (1) from q_23) (fun z30 gz30 gaz30 gbz30 => ?_)
                  have hc180 : ∀ (tc180_0 : Int), ∀ (ls : rO) (σ : rS) (F_c180 : hF) (A_c180 : hA) , rlook ls 0 = some (.ref (D 0)) → rlook ls 1 = some (I (a1)) → rlook ls 2 = some (I (z20)) → HW V227 σ D N F_c180 A_c180 → OUT (V227).length D N σE c s D N σ c s → SF [] F15 F_c180 → SA [] A15 A_c180 → (inr (tc180_0)) → (((z30) = (0) ∧ (tc180_0) = (0)) ∨ ((z30) ≠ (0) ∧ (tc180_0) = (4))) → Ew 227 (d + 3) 180 ls [I (tc180_0), I (((a1 + 6) + 0))] σ c s Q := by
                   as_aux_lemma =>
                    intro tc180_0 ls σ F_c180 A_c180  lc180_0 lc180_1 lc180_2 H O hS_c180 hA_c180     jc180_0 jc180_1
                    have cF_c180 : SF oz_D5clsl_0 F F_c180 := SF_trans (cF15) hS_c180 (any_sub (by decide +kernel))
                    have mF_c180 := SFm_of cF_c180 oz_D5cls_6
                    have cA_c180 : SA oz_D5clsl_1 A A_c180 := SA_trans (cA15) hA_c180 (any_subA (by decide +kernel))
                    have mA_c180 := SAm_of cA_c180 oz_D5cls_7
                    refine w_iadd rfl ?_
                    refine Ew_of (pcₚ := 182) (fun _ => x_istore_n rfl) ?_
                    refine Ew_of (pcₚ := 183) (fun _ => x_iload_n rfl rk_s) ?_
                    refine Ew_of (pcₚ := 184) (fun _ => x_aload_n rfl (rk_o (lc180_0) rfl rfl)) ?_
                    refine v_g H (o := 0) (v := I (u0_5)) rfl rfl rfl rfl rfl (congrArg (fun z : Int => I z) (((mF_c180 0 5 rfl).trans (eu0_5)) : F_c180 0 5 = u0_5)) ?_
                    refine w_icmplt (t := 200) rfl rfl (show inr ((((a1 + 6) + 0) + tc180_0)) from q_2936 b17 h1 h2 jc180_0 jc180_1) (show inr (u0_5) from q_884 h1) (fun b31 => ?_) (fun b31 => ?_)
                    · refine Ew_of (pcₚ := 201) (fun _ => x_aload_n rfl (rk_o (lc180_0) rfl rfl)) ?_
                      refine v_g H (o := 0) (v := .ref (D 1)) rfl rfl rfl rfl rfl (vrf ((mF_c180 0 4 rfl).trans (pf1))) ?_
                      refine Ew_of (pcₚ := 205) (fun _ => x_iload_n rfl rk_s) ?_
                      refine v_lB H (o := 1) rfl rfl rfl rfl (n := n1) (en1) (show 0 ≤ (((a1 + 6) + 0) + tc180_0) ∧ (((a1 + 6) + 0) + tc180_0) < n1 from q_2937 b31 h1 h2 jc180_1) (fun v32 ev32 qv32 => ?_)
                      have ev32 : (A 1) ((((a1 + 6) + 0) + tc180_0)) = v32 := (congrFun (funext (mA_c180 1 rfl)) ((((a1 + 6) + 0) + tc180_0))).symm.trans ev32
                      refine Ew_of (pcₚ := 209) (fun _ => x_sipush (z := 255) rfl (by decide)) ?_
                      refine w_iand rfl (show inr (v32) from q_2536 qv32) (show inr (255) from q_36) (fun z33 gz33 gaz33 gbz33 => ?_)
                      refine Ew_of (pcₚ := 211) (fun _ => x_aload_n rfl (rk_o (lc180_0) rfl rfl)) ?_
                      refine v_g H (o := 0) (v := .ref (D 1)) rfl rfl rfl rfl rfl (vrf ((mF_c180 0 4 rfl).trans (pf1))) ?_
                      refine Ew_of (pcₚ := 215) (fun _ => x_iload_n rfl (rk_o (lc180_1) rfl rfl)) ?_
                      refine Ew_of (pcₚ := 216) (fun _ => x_iconst rfl) ?_
                      refine w_iadd rfl ?_
                      refine Ew_of (pcₚ := 218) (fun _ => x_iload_n rfl rk_s) ?_
                      refine Ew_of (pcₚ := 219) (fun _ => x_iconst rfl) ?_
                      refine w_stat25 rfl rfl (by rfl) (C49_Br (D := puc 1 D) (N := puc 1 N) (HW_subc H oz_D5cls_5 oz_D5cls_8) (n1) (en1) (show inr ((a1 + 4)) from q_2940 b17 h1 h2) (show inr ((((a1 + 6) + 0) + tc180_0)) from q_2939 b31 h1 h2 jc180_0) (show inr (0) from q_20) (show 0 ≤ ((a1 + 4)) ∧ ((a1 + 4)) ≤ ((((a1 + 6) + 0) + tc180_0)) ∧ ((((a1 + 6) + 0) + tc180_0)) ≤ (n1) from q_2938 b31 h1 h2 jc180_1) (fun z34 σ34 F34ₚ A34ₚ Hₚ Oₚ hS34 hA34 pz34_0 => ⟨rfl, ?_⟩))
                      refine v_backc (c := c) (s := s) H oz_D5cls_5 oz_D5cls_8 Hₚ Oₚ (fun F34 A34 H Oₚ eF34 eA34 => ?_)
                      have O := OUT_trans O Oₚ
                      -- PackHouse.narrowSum
                      have cF34 : SF oz_D5clsl_0 F F34 := SF_trans (cF_c180) (SF_gluc (ι := oz_D5clsl_2) oz_D5cls_8 hS34 eF34 (by decide +kernel)) (any_sub (lₚ := []) (by decide +kernel))
                      have mF34 := SFm_of cF34 oz_D5cls_6
                      have cA34 : SA oz_D5clsl_1 A A34 := SA_trans (cA_c180) (SA_gluc (ι := oz_D5clsl_2) oz_D5cls_8 hA34 eA34 (by decide +kernel)) (any_subA (lₚ := []) (by decide +kernel))
                      have mA34 := SAm_of cA34 oz_D5cls_7
                      refine Ew_of (pcₚ := 224) (fun _ => x_bipush (z := 8) rfl (by decide)) ?_
                      refine w_iushrA rfl (fun z35 gz35 => ?_)
                      refine Ew_of (pcₚ := 228) (fun _ => x_sipush (z := 255) rfl (by decide)) ?_
                      refine w_iand rfl (show inr (z35) from gz35) (show inr (255) from q_36) (fun z36 gz36 gaz36 gbz36 => ?_)
                      refine w_icmpeq (t := 240) rfl rfl (show inr (z33) from gz33) (show inr (z36) from gz36) (fun b37 => ?_) (fun b37 => ?_)
                      · refine Ew_of (pcₚ := 241) (fun _ => x_aload_n rfl (rk_o (lc180_0) rfl rfl)) ?_
                        refine Ew_of (pcₚ := 242) (fun _ => x_iconst rfl) ?_
                        refine Ew_of (pcₚ := 244) (fun _ => x_bipush (z := 8) rfl (by decide)) ?_
                        refine Ew_of (pcₚ := 245) (fun _ => x_iconst rfl) ?_
                        refine Ew_of (pcₚ := 246) (fun _ => x_iload_n rfl (rk_o (lc180_2) rfl rfl)) ?_
                        refine w_imul rfl ?_
                        refine w_iadd rfl ?_
                        have hp16 : p2 (((8 + (2 * z20)))) ≤ p2 22 := p2_mono (by omega)
                        have : p2 22 = 4194304 := by decide
                        have := p2_pos (((8 + (2 * z20))))
                        refine w_ishl1 rfl (show 0 ≤ (8 + (2 * z20)) ∧ (8 + (2 * z20)) ≤ 31 from q_2941 b26 b27) ?_
                        refine v_p H (o := 0) (z := p2 ((8 + (2 * z20)))) (v := I (p2 ((8 + (2 * z20))))) rfl rfl rfl rfl rfl rfl rfl rfl (show (-2147483648 : Int) ≤ p2 ((8 + (2 * z20))) ∧ p2 ((8 + (2 * z20))) ≤ 2147483647 by omega) (fun σ H Oₚ => ?_)
                        have O := OUT_trans O Oₚ
                        have cFu39 : SF oz_D5clsl_0 F (updF F34 0 9 (p2 ((8 + (2 * z20))))) := SF_upd (cF34) rfl
                        have mFu39 := SFm_of cFu39 oz_D5cls_6
                        refine Ew_of (pcₚ := 253) (fun _ => x_aload_n rfl (rk_o (lc180_0) rfl rfl)) ?_
                        refine Ew_of (pcₚ := 254) (fun _ => x_aload_n rfl (rk_o (lc180_0) rfl rfl)) ?_
                        refine v_g H (o := 0) (v := .ref (D 2)) rfl rfl rfl rfl rfl (vrf ((mFu39 0 6 rfl).trans (pf2))) ?_
                        refine v_g H (o := 2) (v := I (u2_1)) rfl rfl rfl rfl rfl (congrArg (fun z : Int => I z) (((mFu39 2 1 rfl).trans (eu2_1)) : (updF F34 0 9 (p2 ((8 + (2 * z20))))) 2 1 = u2_1)) ?_
                        refine v_p H (o := 0) (z := u2_1) (v := I (u2_1)) rfl rfl rfl rfl rfl rfl rfl rfl (show (-2147483648 : Int) ≤ u2_1 ∧ u2_1 ≤ 2147483647 from r6) (fun σ H Oₚ => ?_)
                        have O := OUT_trans O Oₚ
                        have cFu40 : SF oz_D5clsl_0 F (updF (updF F34 0 9 (p2 ((8 + (2 * z20))))) 0 10 (u2_1)) := SF_upd (cFu39) rfl
                        have mFu40 := SFm_of cFu40 oz_D5cls_6
                        refine Ew_of (pcₚ := 264) (fun _ => x_aload_n rfl (rk_o (lc180_0) rfl rfl)) ?_
                        refine Ew_of (pcₚ := 265) (fun _ => x_iconst rfl) ?_
                        refine Ew_of (pcₚ := 266) (fun _ => x_iload_n rfl rk_s) ?_
                        refine Ew_of (pcₚ := 267) (fun _ => x_iconst rfl) ?_
                        refine w_iadd rfl ?_
                        refine v_inv H (o := 0) rfl rfl rfl rfl rfl rfl (by rfl) (C221 (D := puc 0 D) (N := puc 0 N) (HW_subc H oz_D5cls_4 oz_D5cls_10) (u0_12) (((((((show F34 0 12 = F_c180 0 12 from (eF34 0 12))).trans (hS_c180 0 12 rfl)).trans ((show F15 0 12 = (updF F9 0 8 (z13)) 0 12 from (eF15 0 12)))).trans ((show F9 0 12 = F 0 12 from (eF9 0 12)))).trans (eu0_12))) (show inr (0) from q_20) (show inr (((((a1 + 6) + 0) + tc180_0) + 1)) from q_2942 b31 h1 h2 jc180_0) (fun z41 σ41 F41ₚ A41ₚ Hₚ Oₚ hS41 hA41 y41_0_12 ey41_0_12 pz41_0 pz41_1 pz41_2 => ⟨rfl, ?_⟩))
                        refine v_backc (c := c) (s := s) H oz_D5cls_4 oz_D5cls_10 Hₚ Oₚ (fun F41 A41 H Oₚ eF41 eA41 => ?_)
                        have O := OUT_trans O Oₚ
                        -- Tokens.fail
                        have cF41 : SF oz_D5clsl_0 F F41 := SF_trans (cFu40) (SF_gluc (ι := oz_D5clsl_3) oz_D5cls_10 hS41 eF41 (by decide +kernel)) (any_sub (lₚ := [(0, 12)]) (by decide +kernel))
                        have mF41 := SFm_of cF41 oz_D5cls_6
                        have cA41 : SA oz_D5clsl_1 A A41 := SA_trans (cA34) (SA_gluc (ι := oz_D5clsl_3) oz_D5cls_10 hA41 eA41 (by decide +kernel)) (any_subA (lₚ := []) (by decide +kernel))
                        have mA41 := SAm_of cA41 oz_D5cls_7
                        have r42 : (-2147483648 : Int) ≤ y41_0_12 ∧ y41_0_12 ≤ 2147483647 := rngE (show (-2147483648 : Int) ≤ F41 0 12 ∧ F41 0 12 ≤ 2147483647 from H.krg 0 12 (ltn len_V227_oz_D5cls rfl)) (show F41 0 12 = y41_0_12 from ((eF41 0 12).trans ey41_0_12))
                        exact w_ireturn rfl (k (z41) _ _ _ H O (cF41) (cA41) (z13) ((((((show F41 0 8 = (updF (updF F34 0 9 (p2 ((8 + (2 * z20))))) 0 10 (u2_1)) 0 8 from (eF41 0 8).trans (hS41 0 8 rfl))).trans ((show F34 0 8 = F_c180 0 8 from (eF34 0 8)))).trans (hS_c180 0 8 rfl)).trans ((show F15 0 8 = (updF F9 0 8 (z13)) 0 8 from (eF15 0 8))))) (p2 ((8 + (2 * z20)))) (((show F41 0 9 = (updF (updF F34 0 9 (p2 ((8 + (2 * z20))))) 0 10 (u2_1)) 0 9 from (eF41 0 9).trans (hS41 0 9 rfl)))) (u2_1) (((show F41 0 10 = (updF (updF F34 0 9 (p2 ((8 + (2 * z20))))) 0 10 (u2_1)) 0 10 from (eF41 0 10).trans (hS41 0 10 rfl)))) (y41_0_12) (((eF41 0 12).trans ey41_0_12)) (show inr (z41) from pz41_0) (show 0 ≤ (z41) ∧ (z41) ≤ 6 from q_2903 pz41_1) (show (z41) = 0 → a1 + 7 ≤ (y41_0_12) ∧ (y41_0_12) ≤ (u0_5) ∧ (u2_1) = (u2_1) ∧ 0 ≤ (p2 ((8 + (2 * z20)))) ∧ (p2 ((8 + (2 * z20)))) ≤ 4194304 by omega) (show (z41) = 0 → andI ((z13)) 8 = 0 ∨ a1 + 14 ≤ (u0_5) from q_2943 b29 gez28))
                      · refine Ew_of (pcₚ := 233) (fun _ => x_aload_n rfl (rk_o (lc180_0) rfl rfl)) ?_
                        refine Ew_of (pcₚ := 235) (fun _ => x_bipush (z := 6) rfl (by decide)) ?_
                        refine Ew_of (pcₚ := 236) (fun _ => x_iload_n rfl rk_s) ?_
                        refine v_inv H (o := 0) rfl rfl rfl rfl rfl rfl (by rfl) (C221 (D := puc 0 D) (N := puc 0 N) (HW_subc H oz_D5cls_4 oz_D5cls_10) (u0_12) (((((((show F34 0 12 = F_c180 0 12 from (eF34 0 12))).trans (hS_c180 0 12 rfl)).trans ((show F15 0 12 = (updF F9 0 8 (z13)) 0 12 from (eF15 0 12)))).trans ((show F9 0 12 = F 0 12 from (eF9 0 12)))).trans (eu0_12))) (show inr (6) from q_545) (show inr ((((a1 + 6) + 0) + tc180_0)) from q_2939 b31 h1 h2 jc180_0) (fun z43 σ43 F43ₚ A43ₚ Hₚ Oₚ hS43 hA43 y43_0_12 ey43_0_12 pz43_0 pz43_1 pz43_2 => ⟨rfl, ?_⟩))
                        refine v_backc (c := c) (s := s) H oz_D5cls_4 oz_D5cls_10 Hₚ Oₚ (fun F43 A43 H Oₚ eF43 eA43 => ?_)
                        have O := OUT_trans O Oₚ
                        -- Tokens.fail
                        have cF43 : SF oz_D5clsl_0 F F43 := SF_trans (cF34) (SF_gluc (ι := oz_D5clsl_3) oz_D5cls_10 hS43 eF43 (by decide +kernel)) (any_sub (lₚ := [(0, 12)]) (by decide +kernel))
                        have mF43 := SFm_of cF43 oz_D5cls_6
                        have cA43 : SA oz_D5clsl_1 A A43 := SA_trans (cA34) (SA_gluc (ι := oz_D5clsl_3) oz_D5cls_10 hA43 eA43 (by decide +kernel)) (any_subA (lₚ := []) (by decide +kernel))
                        have mA43 := SAm_of cA43 oz_D5cls_7
                        have r44 : (-2147483648 : Int) ≤ y43_0_12 ∧ y43_0_12 ≤ 2147483647 := rngE (show (-2147483648 : Int) ≤ F43 0 12 ∧ F43 0 12 ≤ 2147483647 from H.krg 0 12 (ltn len_V227_oz_D5cls rfl)) (show F43 0 12 = y43_0_12 from ((eF43 0 12).trans ey43_0_12))
                        exact w_ireturn rfl (k (z43) _ _ _ H O (cF43) (cA43) (z13) ((((((show F43 0 8 = F34 0 8 from (eF43 0 8).trans (hS43 0 8 rfl))).trans ((show F34 0 8 = F_c180 0 8 from (eF34 0 8)))).trans (hS_c180 0 8 rfl)).trans ((show F15 0 8 = (updF F9 0 8 (z13)) 0 8 from (eF15 0 8))))) (u0_9) ((((((((show F43 0 9 = F34 0 9 from (eF43 0 9).trans (hS43 0 9 rfl))).trans ((show F34 0 9 = F_c180 0 9 from (eF34 0 9)))).trans (hS_c180 0 9 rfl)).trans ((show F15 0 9 = (updF F9 0 8 (z13)) 0 9 from (eF15 0 9)))).trans ((show F9 0 9 = F 0 9 from (eF9 0 9)))).trans (eu0_9))) (u0_10) ((((((((show F43 0 10 = F34 0 10 from (eF43 0 10).trans (hS43 0 10 rfl))).trans ((show F34 0 10 = F_c180 0 10 from (eF34 0 10)))).trans (hS_c180 0 10 rfl)).trans ((show F15 0 10 = (updF F9 0 8 (z13)) 0 10 from (eF15 0 10)))).trans ((show F9 0 10 = F 0 10 from (eF9 0 10)))).trans (eu0_10))) (y43_0_12) (((eF43 0 12).trans ey43_0_12)) (show inr (z43) from pz43_0) (show 0 ≤ (z43) ∧ (z43) ≤ 6 from q_2904 pz43_1) (show (z43) = 0 → a1 + 7 ≤ (y43_0_12) ∧ (y43_0_12) ≤ (u0_5) ∧ (u0_10) = (u2_1) ∧ 0 ≤ (u0_9) ∧ (u0_9) ≤ 4194304 from q_2945 b31 h0 h3 pz43_1 pz43_2 r3 r4 r44) (show (z43) = 0 → andI ((z13)) 8 = 0 ∨ a1 + 14 ≤ (u0_5) from q_2944 pz43_1))
                    · refine Ew_of (pcₚ := 191) (fun _ => x_aload_n rfl (rk_o (lc180_0) rfl rfl)) ?_
                      refine Ew_of (pcₚ := 192) (fun _ => x_iconst rfl) ?_
                      refine Ew_of (pcₚ := 193) (fun _ => x_aload_n rfl (rk_o (lc180_0) rfl rfl)) ?_
                      refine v_g H (o := 0) (v := I (u0_5)) rfl rfl rfl rfl rfl (congrArg (fun z : Int => I z) (((mF_c180 0 5 rfl).trans (eu0_5)) : F_c180 0 5 = u0_5)) ?_
                      refine v_inv H (o := 0) rfl rfl rfl rfl rfl rfl (by rfl) (C221 (D := puc 0 D) (N := puc 0 N) (HW_subc H oz_D5cls_4 oz_D5cls_10) (u0_12) (((((hS_c180 0 12 rfl).trans ((show F15 0 12 = (updF F9 0 8 (z13)) 0 12 from (eF15 0 12)))).trans ((show F9 0 12 = F 0 12 from (eF9 0 12)))).trans (eu0_12))) (show inr (1) from q_23) (show inr (u0_5) from q_884 h1) (fun z45 σ45 F45ₚ A45ₚ Hₚ Oₚ hS45 hA45 y45_0_12 ey45_0_12 pz45_0 pz45_1 pz45_2 => ⟨rfl, ?_⟩))
                      refine v_backc (c := c) (s := s) H oz_D5cls_4 oz_D5cls_10 Hₚ Oₚ (fun F45 A45 H Oₚ eF45 eA45 => ?_)
                      have O := OUT_trans O Oₚ
                      -- Tokens.fail
                      have cF45 : SF oz_D5clsl_0 F F45 := SF_trans (cF_c180) (SF_gluc (ι := oz_D5clsl_3) oz_D5cls_10 hS45 eF45 (by decide +kernel)) (any_sub (lₚ := [(0, 12)]) (by decide +kernel))
                      have mF45 := SFm_of cF45 oz_D5cls_6
                      have cA45 : SA oz_D5clsl_1 A A45 := SA_trans (cA_c180) (SA_gluc (ι := oz_D5clsl_3) oz_D5cls_10 hA45 eA45 (by decide +kernel)) (any_subA (lₚ := []) (by decide +kernel))
                      have mA45 := SAm_of cA45 oz_D5cls_7
                      have r46 : (-2147483648 : Int) ≤ y45_0_12 ∧ y45_0_12 ≤ 2147483647 := rngE (show (-2147483648 : Int) ≤ F45 0 12 ∧ F45 0 12 ≤ 2147483647 from H.krg 0 12 (ltn len_V227_oz_D5cls rfl)) (show F45 0 12 = y45_0_12 from ((eF45 0 12).trans ey45_0_12))
                      exact w_ireturn rfl (k (z45) _ _ _ H O (cF45) (cA45) (z13) (((((show F45 0 8 = F_c180 0 8 from (eF45 0 8).trans (hS45 0 8 rfl))).trans (hS_c180 0 8 rfl)).trans ((show F15 0 8 = (updF F9 0 8 (z13)) 0 8 from (eF15 0 8))))) (u0_9) (((((((show F45 0 9 = F_c180 0 9 from (eF45 0 9).trans (hS45 0 9 rfl))).trans (hS_c180 0 9 rfl)).trans ((show F15 0 9 = (updF F9 0 8 (z13)) 0 9 from (eF15 0 9)))).trans ((show F9 0 9 = F 0 9 from (eF9 0 9)))).trans (eu0_9))) (u0_10) (((((((show F45 0 10 = F_c180 0 10 from (eF45 0 10).trans (hS45 0 10 rfl))).trans (hS_c180 0 10 rfl)).trans ((show F15 0 10 = (updF F9 0 8 (z13)) 0 10 from (eF15 0 10)))).trans ((show F9 0 10 = F 0 10 from (eF9 0 10)))).trans (eu0_10))) (y45_0_12) (((eF45 0 12).trans ey45_0_12)) (show inr (z45) from pz45_0) (show 0 ≤ (z45) ∧ (z45) ≤ 6 from q_2914 pz45_1) (show (z45) = 0 → a1 + 7 ≤ (y45_0_12) ∧ (y45_0_12) ≤ (u0_5) ∧ (u0_10) = (u2_1) ∧ 0 ≤ (u0_9) ∧ (u0_9) ≤ 4194304 from q_2947 b17 h3 pz45_1 pz45_2 r3 r4) (show (z45) = 0 → andI ((z13)) 8 = 0 ∨ a1 + 14 ≤ (u0_5) from q_2946 pz45_1))
                  refine w_ifeq (t := 179) rfl rfl (show inr (z30) from gz30) (fun b47 => ?_) (fun b47 => ?_)
                  · refine Ew_of (pcₚ := 180) (fun _ => x_iconst rfl) ?_
                    exact hc180 (0) _ _ _ _  (rk_o (rfl) rfl rfl) (rk_o (rfl) rfl rfl) (rk_s) H O (SF_refl) (SA_refl)     (show inr (0) from q_20) (show ((z30) = (0) ∧ (0) = (0)) ∨ ((z30) ≠ (0) ∧ (0) = (4)) from q_2468 b47)
                  · refine Ew_of (pcₚ := 176) (fun _ => x_iconst rfl) ?_
                    refine Ew_of (pcₚ := 180) (fun _ => x_goto rfl rfl) ?_
                    exact hc180 (4) _ _ _ _  (rk_o (rfl) rfl rfl) (rk_o (rfl) rfl rfl) (rk_s) H O (SF_refl) (SA_refl)     (show inr (4) from q_2) (show ((z30) = (0) ∧ (4) = (0)) ∨ ((z30) ≠ (0) ∧ (4) = (4)) from q_2469 b47)
                · refine Ew_of (pcₚ := 161) (fun _ => x_bipush (z := 8) rfl (by decide)) ?_
                  refine Ew_of (pcₚ := 165) (fun _ => x_goto rfl rfl) ?_
                  refine w_iadd rfl ?_
                  refine Ew_of (pcₚ := 167) (fun _ => x_aload_n rfl (rk_o (rfl) rfl rfl)) ?_
                  refine v_g H (o := 0) (v := I (z13)) rfl rfl rfl rfl rfl (congrArg (fun z : Int => I z) (((show F15 0 8 = (updF F9 0 8 (z13)) 0 8 from (eF15 0 8))) : F15 0 8 = z13)) ?_
                  refine Ew_of (pcₚ := 171) (fun _ => x_iconst rfl) ?_
                  refine w_iand rfl (show inr (z13) from gz13) (show inr (1) from q_23) (fun z48 gz48 gaz48 gbz48 => ?_)
                  have hc180 : ∀ (tc180_0 : Int), ∀ (ls : rO) (σ : rS) (F_c180 : hF) (A_c180 : hA) , rlook ls 0 = some (.ref (D 0)) → rlook ls 1 = some (I (a1)) → rlook ls 2 = some (I (z20)) → HW V227 σ D N F_c180 A_c180 → OUT (V227).length D N σE c s D N σ c s → SF [] F15 F_c180 → SA [] A15 A_c180 → (inr (tc180_0)) → (((z48) = (0) ∧ (tc180_0) = (0)) ∨ ((z48) ≠ (0) ∧ (tc180_0) = (4))) → Ew 227 (d + 3) 180 ls [I (tc180_0), I (((a1 + 6) + 8))] σ c s Q := by
                   as_aux_lemma =>
                    intro tc180_0 ls σ F_c180 A_c180  lc180_0 lc180_1 lc180_2 H O hS_c180 hA_c180     jc180_0 jc180_1
                    have cF_c180 : SF oz_D5clsl_0 F F_c180 := SF_trans (cF15) hS_c180 (any_sub (by decide +kernel))
                    have mF_c180 := SFm_of cF_c180 oz_D5cls_6
                    have cA_c180 : SA oz_D5clsl_1 A A_c180 := SA_trans (cA15) hA_c180 (any_subA (by decide +kernel))
                    have mA_c180 := SAm_of cA_c180 oz_D5cls_7
                    refine w_iadd rfl ?_
                    refine Ew_of (pcₚ := 182) (fun _ => x_istore_n rfl) ?_
                    refine Ew_of (pcₚ := 183) (fun _ => x_iload_n rfl rk_s) ?_
                    refine Ew_of (pcₚ := 184) (fun _ => x_aload_n rfl (rk_o (lc180_0) rfl rfl)) ?_
                    refine v_g H (o := 0) (v := I (u0_5)) rfl rfl rfl rfl rfl (congrArg (fun z : Int => I z) (((mF_c180 0 5 rfl).trans (eu0_5)) : F_c180 0 5 = u0_5)) ?_
                    refine w_icmplt (t := 200) rfl rfl (show inr ((((a1 + 6) + 8) + tc180_0)) from q_2948 b17 h1 h2 jc180_0 jc180_1) (show inr (u0_5) from q_884 h1) (fun b49 => ?_) (fun b49 => ?_)
                    · refine Ew_of (pcₚ := 201) (fun _ => x_aload_n rfl (rk_o (lc180_0) rfl rfl)) ?_
                      refine v_g H (o := 0) (v := .ref (D 1)) rfl rfl rfl rfl rfl (vrf ((mF_c180 0 4 rfl).trans (pf1))) ?_
                      refine Ew_of (pcₚ := 205) (fun _ => x_iload_n rfl rk_s) ?_
                      refine v_lB H (o := 1) rfl rfl rfl rfl (n := n1) (en1) (show 0 ≤ (((a1 + 6) + 8) + tc180_0) ∧ (((a1 + 6) + 8) + tc180_0) < n1 from q_2949 b49 h1 h2 jc180_1) (fun v50 ev50 qv50 => ?_)
                      have ev50 : (A 1) ((((a1 + 6) + 8) + tc180_0)) = v50 := (congrFun (funext (mA_c180 1 rfl)) ((((a1 + 6) + 8) + tc180_0))).symm.trans ev50
                      refine Ew_of (pcₚ := 209) (fun _ => x_sipush (z := 255) rfl (by decide)) ?_
                      refine w_iand rfl (show inr (v50) from q_2536 qv50) (show inr (255) from q_36) (fun z51 gz51 gaz51 gbz51 => ?_)
                      refine Ew_of (pcₚ := 211) (fun _ => x_aload_n rfl (rk_o (lc180_0) rfl rfl)) ?_
                      refine v_g H (o := 0) (v := .ref (D 1)) rfl rfl rfl rfl rfl (vrf ((mF_c180 0 4 rfl).trans (pf1))) ?_
                      refine Ew_of (pcₚ := 215) (fun _ => x_iload_n rfl (rk_o (lc180_1) rfl rfl)) ?_
                      refine Ew_of (pcₚ := 216) (fun _ => x_iconst rfl) ?_
                      refine w_iadd rfl ?_
                      refine Ew_of (pcₚ := 218) (fun _ => x_iload_n rfl rk_s) ?_
                      refine Ew_of (pcₚ := 219) (fun _ => x_iconst rfl) ?_
                      refine w_stat25 rfl rfl (by rfl) (C49_Br (D := puc 1 D) (N := puc 1 N) (HW_subc H oz_D5cls_5 oz_D5cls_8) (n1) (en1) (show inr ((a1 + 4)) from q_2940 b17 h1 h2) (show inr ((((a1 + 6) + 8) + tc180_0)) from q_2951 b49 h1 h2 jc180_0) (show inr (0) from q_20) (show 0 ≤ ((a1 + 4)) ∧ ((a1 + 4)) ≤ ((((a1 + 6) + 8) + tc180_0)) ∧ ((((a1 + 6) + 8) + tc180_0)) ≤ (n1) from q_2950 b49 h1 h2 jc180_1) (fun z52 σ52 F52ₚ A52ₚ Hₚ Oₚ hS52 hA52 pz52_0 => ⟨rfl, ?_⟩))
                      refine v_backc (c := c) (s := s) H oz_D5cls_5 oz_D5cls_8 Hₚ Oₚ (fun F52 A52 H Oₚ eF52 eA52 => ?_)
                      have O := OUT_trans O Oₚ
                      -- PackHouse.narrowSum
                      have cF52 : SF oz_D5clsl_0 F F52 := SF_trans (cF_c180) (SF_gluc (ι := oz_D5clsl_2) oz_D5cls_8 hS52 eF52 (by decide +kernel)) (any_sub (lₚ := []) (by decide +kernel))
                      have mF52 := SFm_of cF52 oz_D5cls_6
                      have cA52 : SA oz_D5clsl_1 A A52 := SA_trans (cA_c180) (SA_gluc (ι := oz_D5clsl_2) oz_D5cls_8 hA52 eA52 (by decide +kernel)) (any_subA (lₚ := []) (by decide +kernel))
                      have mA52 := SAm_of cA52 oz_D5cls_7
                      refine Ew_of (pcₚ := 224) (fun _ => x_bipush (z := 8) rfl (by decide)) ?_
                      refine w_iushrA rfl (fun z53 gz53 => ?_)
                      refine Ew_of (pcₚ := 228) (fun _ => x_sipush (z := 255) rfl (by decide)) ?_
                      refine w_iand rfl (show inr (z53) from gz53) (show inr (255) from q_36) (fun z54 gz54 gaz54 gbz54 => ?_)
                      refine w_icmpeq (t := 240) rfl rfl (show inr (z51) from gz51) (show inr (z54) from gz54) (fun b55 => ?_) (fun b55 => ?_)
                      · refine Ew_of (pcₚ := 241) (fun _ => x_aload_n rfl (rk_o (lc180_0) rfl rfl)) ?_
                        refine Ew_of (pcₚ := 242) (fun _ => x_iconst rfl) ?_
                        refine Ew_of (pcₚ := 244) (fun _ => x_bipush (z := 8) rfl (by decide)) ?_
                        refine Ew_of (pcₚ := 245) (fun _ => x_iconst rfl) ?_
                        refine Ew_of (pcₚ := 246) (fun _ => x_iload_n rfl (rk_o (lc180_2) rfl rfl)) ?_
                        refine w_imul rfl ?_
                        refine w_iadd rfl ?_
                        have hp16 : p2 (((8 + (2 * z20)))) ≤ p2 22 := p2_mono (by omega)
                        have : p2 22 = 4194304 := by decide
                        have := p2_pos (((8 + (2 * z20))))
                        refine w_ishl1 rfl (show 0 ≤ (8 + (2 * z20)) ∧ (8 + (2 * z20)) ≤ 31 from q_2941 b26 b27) ?_
                        refine v_p H (o := 0) (z := p2 ((8 + (2 * z20)))) (v := I (p2 ((8 + (2 * z20))))) rfl rfl rfl rfl rfl rfl rfl rfl (show (-2147483648 : Int) ≤ p2 ((8 + (2 * z20))) ∧ p2 ((8 + (2 * z20))) ≤ 2147483647 by omega) (fun σ H Oₚ => ?_)
                        have O := OUT_trans O Oₚ
                        have cFu57 : SF oz_D5clsl_0 F (updF F52 0 9 (p2 ((8 + (2 * z20))))) := SF_upd (cF52) rfl
                        have mFu57 := SFm_of cFu57 oz_D5cls_6
                        refine Ew_of (pcₚ := 253) (fun _ => x_aload_n rfl (rk_o (lc180_0) rfl rfl)) ?_
                        refine Ew_of (pcₚ := 254) (fun _ => x_aload_n rfl (rk_o (lc180_0) rfl rfl)) ?_
                        refine v_g H (o := 0) (v := .ref (D 2)) rfl rfl rfl rfl rfl (vrf ((mFu57 0 6 rfl).trans (pf2))) ?_
                        refine v_g H (o := 2) (v := I (u2_1)) rfl rfl rfl rfl rfl (congrArg (fun z : Int => I z) (((mFu57 2 1 rfl).trans (eu2_1)) : (updF F52 0 9 (p2 ((8 + (2 * z20))))) 2 1 = u2_1)) ?_
                        refine v_p H (o := 0) (z := u2_1) (v := I (u2_1)) rfl rfl rfl rfl rfl rfl rfl rfl (show (-2147483648 : Int) ≤ u2_1 ∧ u2_1 ≤ 2147483647 from r6) (fun σ H Oₚ => ?_)
                        have O := OUT_trans O Oₚ
                        have cFu58 : SF oz_D5clsl_0 F (updF (updF F52 0 9 (p2 ((8 + (2 * z20))))) 0 10 (u2_1)) := SF_upd (cFu57) rfl
                        have mFu58 := SFm_of cFu58 oz_D5cls_6
                        refine Ew_of (pcₚ := 264) (fun _ => x_aload_n rfl (rk_o (lc180_0) rfl rfl)) ?_
                        refine Ew_of (pcₚ := 265) (fun _ => x_iconst rfl) ?_
                        refine Ew_of (pcₚ := 266) (fun _ => x_iload_n rfl rk_s) ?_
                        refine Ew_of (pcₚ := 267) (fun _ => x_iconst rfl) ?_
                        refine w_iadd rfl ?_
                        refine v_inv H (o := 0) rfl rfl rfl rfl rfl rfl (by rfl) (C221 (D := puc 0 D) (N := puc 0 N) (HW_subc H oz_D5cls_4 oz_D5cls_10) (u0_12) (((((((show F52 0 12 = F_c180 0 12 from (eF52 0 12))).trans (hS_c180 0 12 rfl)).trans ((show F15 0 12 = (updF F9 0 8 (z13)) 0 12 from (eF15 0 12)))).trans ((show F9 0 12 = F 0 12 from (eF9 0 12)))).trans (eu0_12))) (show inr (0) from q_20) (show inr (((((a1 + 6) + 8) + tc180_0) + 1)) from q_2952 b49 h1 h2 jc180_0) (fun z59 σ59 F59ₚ A59ₚ Hₚ Oₚ hS59 hA59 y59_0_12 ey59_0_12 pz59_0 pz59_1 pz59_2 => ⟨rfl, ?_⟩))
                        refine v_backc (c := c) (s := s) H oz_D5cls_4 oz_D5cls_10 Hₚ Oₚ (fun F59 A59 H Oₚ eF59 eA59 => ?_)
                        have O := OUT_trans O Oₚ
                        -- Tokens.fail
                        have cF59 : SF oz_D5clsl_0 F F59 := SF_trans (cFu58) (SF_gluc (ι := oz_D5clsl_3) oz_D5cls_10 hS59 eF59 (by decide +kernel)) (any_sub (lₚ := [(0, 12)]) (by decide +kernel))
                        have mF59 := SFm_of cF59 oz_D5cls_6
                        have cA59 : SA oz_D5clsl_1 A A59 := SA_trans (cA52) (SA_gluc (ι := oz_D5clsl_3) oz_D5cls_10 hA59 eA59 (by decide +kernel)) (any_subA (lₚ := []) (by decide +kernel))
                        have mA59 := SAm_of cA59 oz_D5cls_7
                        have r60 : (-2147483648 : Int) ≤ y59_0_12 ∧ y59_0_12 ≤ 2147483647 := rngE (show (-2147483648 : Int) ≤ F59 0 12 ∧ F59 0 12 ≤ 2147483647 from H.krg 0 12 (ltn len_V227_oz_D5cls rfl)) (show F59 0 12 = y59_0_12 from ((eF59 0 12).trans ey59_0_12))
                        exact w_ireturn rfl (k (z59) _ _ _ H O (cF59) (cA59) (z13) ((((((show F59 0 8 = (updF (updF F52 0 9 (p2 ((8 + (2 * z20))))) 0 10 (u2_1)) 0 8 from (eF59 0 8).trans (hS59 0 8 rfl))).trans ((show F52 0 8 = F_c180 0 8 from (eF52 0 8)))).trans (hS_c180 0 8 rfl)).trans ((show F15 0 8 = (updF F9 0 8 (z13)) 0 8 from (eF15 0 8))))) (p2 ((8 + (2 * z20)))) (((show F59 0 9 = (updF (updF F52 0 9 (p2 ((8 + (2 * z20))))) 0 10 (u2_1)) 0 9 from (eF59 0 9).trans (hS59 0 9 rfl)))) (u2_1) (((show F59 0 10 = (updF (updF F52 0 9 (p2 ((8 + (2 * z20))))) 0 10 (u2_1)) 0 10 from (eF59 0 10).trans (hS59 0 10 rfl)))) (y59_0_12) (((eF59 0 12).trans ey59_0_12)) (show inr (z59) from pz59_0) (show 0 ≤ (z59) ∧ (z59) ≤ 6 from q_2903 pz59_1) (show (z59) = 0 → a1 + 7 ≤ (y59_0_12) ∧ (y59_0_12) ≤ (u0_5) ∧ (u2_1) = (u2_1) ∧ 0 ≤ (p2 ((8 + (2 * z20)))) ∧ (p2 ((8 + (2 * z20)))) ≤ 4194304 by omega) (show (z59) = 0 → andI ((z13)) 8 = 0 ∨ a1 + 14 ≤ (u0_5) by omega))
                      · refine Ew_of (pcₚ := 233) (fun _ => x_aload_n rfl (rk_o (lc180_0) rfl rfl)) ?_
                        refine Ew_of (pcₚ := 235) (fun _ => x_bipush (z := 6) rfl (by decide)) ?_
                        refine Ew_of (pcₚ := 236) (fun _ => x_iload_n rfl rk_s) ?_
                        refine v_inv H (o := 0) rfl rfl rfl rfl rfl rfl (by rfl) (C221 (D := puc 0 D) (N := puc 0 N) (HW_subc H oz_D5cls_4 oz_D5cls_10) (u0_12) (((((((show F52 0 12 = F_c180 0 12 from (eF52 0 12))).trans (hS_c180 0 12 rfl)).trans ((show F15 0 12 = (updF F9 0 8 (z13)) 0 12 from (eF15 0 12)))).trans ((show F9 0 12 = F 0 12 from (eF9 0 12)))).trans (eu0_12))) (show inr (6) from q_545) (show inr ((((a1 + 6) + 8) + tc180_0)) from q_2951 b49 h1 h2 jc180_0) (fun z61 σ61 F61ₚ A61ₚ Hₚ Oₚ hS61 hA61 y61_0_12 ey61_0_12 pz61_0 pz61_1 pz61_2 => ⟨rfl, ?_⟩))
                        refine v_backc (c := c) (s := s) H oz_D5cls_4 oz_D5cls_10 Hₚ Oₚ (fun F61 A61 H Oₚ eF61 eA61 => ?_)
                        have O := OUT_trans O Oₚ
                        -- Tokens.fail
                        have cF61 : SF oz_D5clsl_0 F F61 := SF_trans (cF52) (SF_gluc (ι := oz_D5clsl_3) oz_D5cls_10 hS61 eF61 (by decide +kernel)) (any_sub (lₚ := [(0, 12)]) (by decide +kernel))
                        have mF61 := SFm_of cF61 oz_D5cls_6
                        have cA61 : SA oz_D5clsl_1 A A61 := SA_trans (cA52) (SA_gluc (ι := oz_D5clsl_3) oz_D5cls_10 hA61 eA61 (by decide +kernel)) (any_subA (lₚ := []) (by decide +kernel))
                        have mA61 := SAm_of cA61 oz_D5cls_7
                        have r62 : (-2147483648 : Int) ≤ y61_0_12 ∧ y61_0_12 ≤ 2147483647 := rngE (show (-2147483648 : Int) ≤ F61 0 12 ∧ F61 0 12 ≤ 2147483647 from H.krg 0 12 (ltn len_V227_oz_D5cls rfl)) (show F61 0 12 = y61_0_12 from ((eF61 0 12).trans ey61_0_12))
                        exact w_ireturn rfl (k (z61) _ _ _ H O (cF61) (cA61) (z13) ((((((show F61 0 8 = F52 0 8 from (eF61 0 8).trans (hS61 0 8 rfl))).trans ((show F52 0 8 = F_c180 0 8 from (eF52 0 8)))).trans (hS_c180 0 8 rfl)).trans ((show F15 0 8 = (updF F9 0 8 (z13)) 0 8 from (eF15 0 8))))) (u0_9) ((((((((show F61 0 9 = F52 0 9 from (eF61 0 9).trans (hS61 0 9 rfl))).trans ((show F52 0 9 = F_c180 0 9 from (eF52 0 9)))).trans (hS_c180 0 9 rfl)).trans ((show F15 0 9 = (updF F9 0 8 (z13)) 0 9 from (eF15 0 9)))).trans ((show F9 0 9 = F 0 9 from (eF9 0 9)))).trans (eu0_9))) (u0_10) ((((((((show F61 0 10 = F52 0 10 from (eF61 0 10).trans (hS61 0 10 rfl))).trans ((show F52 0 10 = F_c180 0 10 from (eF52 0 10)))).trans (hS_c180 0 10 rfl)).trans ((show F15 0 10 = (updF F9 0 8 (z13)) 0 10 from (eF15 0 10)))).trans ((show F9 0 10 = F 0 10 from (eF9 0 10)))).trans (eu0_10))) (y61_0_12) (((eF61 0 12).trans ey61_0_12)) (show inr (z61) from pz61_0) (show 0 ≤ (z61) ∧ (z61) ≤ 6 from q_2904 pz61_1) (show (z61) = 0 → a1 + 7 ≤ (y61_0_12) ∧ (y61_0_12) ≤ (u0_5) ∧ (u0_10) = (u2_1) ∧ 0 ≤ (u0_9) ∧ (u0_9) ≤ 4194304 from q_2953 b49 h0 h3 pz61_1 pz61_2 r3 r4 r62) (show (z61) = 0 → andI ((z13)) 8 = 0 ∨ a1 + 14 ≤ (u0_5) from q_2944 pz61_1))
                    · refine Ew_of (pcₚ := 191) (fun _ => x_aload_n rfl (rk_o (lc180_0) rfl rfl)) ?_
                      refine Ew_of (pcₚ := 192) (fun _ => x_iconst rfl) ?_
                      refine Ew_of (pcₚ := 193) (fun _ => x_aload_n rfl (rk_o (lc180_0) rfl rfl)) ?_
                      refine v_g H (o := 0) (v := I (u0_5)) rfl rfl rfl rfl rfl (congrArg (fun z : Int => I z) (((mF_c180 0 5 rfl).trans (eu0_5)) : F_c180 0 5 = u0_5)) ?_
                      refine v_inv H (o := 0) rfl rfl rfl rfl rfl rfl (by rfl) (C221 (D := puc 0 D) (N := puc 0 N) (HW_subc H oz_D5cls_4 oz_D5cls_10) (u0_12) (((((hS_c180 0 12 rfl).trans ((show F15 0 12 = (updF F9 0 8 (z13)) 0 12 from (eF15 0 12)))).trans ((show F9 0 12 = F 0 12 from (eF9 0 12)))).trans (eu0_12))) (show inr (1) from q_23) (show inr (u0_5) from q_884 h1) (fun z63 σ63 F63ₚ A63ₚ Hₚ Oₚ hS63 hA63 y63_0_12 ey63_0_12 pz63_0 pz63_1 pz63_2 => ⟨rfl, ?_⟩))
                      refine v_backc (c := c) (s := s) H oz_D5cls_4 oz_D5cls_10 Hₚ Oₚ (fun F63 A63 H Oₚ eF63 eA63 => ?_)
                      have O := OUT_trans O Oₚ
                      -- Tokens.fail
                      have cF63 : SF oz_D5clsl_0 F F63 := SF_trans (cF_c180) (SF_gluc (ι := oz_D5clsl_3) oz_D5cls_10 hS63 eF63 (by decide +kernel)) (any_sub (lₚ := [(0, 12)]) (by decide +kernel))
                      have mF63 := SFm_of cF63 oz_D5cls_6
                      have cA63 : SA oz_D5clsl_1 A A63 := SA_trans (cA_c180) (SA_gluc (ι := oz_D5clsl_3) oz_D5cls_10 hA63 eA63 (by decide +kernel)) (any_subA (lₚ := []) (by decide +kernel))
                      have mA63 := SAm_of cA63 oz_D5cls_7
                      have r64 : (-2147483648 : Int) ≤ y63_0_12 ∧ y63_0_12 ≤ 2147483647 := rngE (show (-2147483648 : Int) ≤ F63 0 12 ∧ F63 0 12 ≤ 2147483647 from H.krg 0 12 (ltn len_V227_oz_D5cls rfl)) (show F63 0 12 = y63_0_12 from ((eF63 0 12).trans ey63_0_12))
                      exact w_ireturn rfl (k (z63) _ _ _ H O (cF63) (cA63) (z13) (((((show F63 0 8 = F_c180 0 8 from (eF63 0 8).trans (hS63 0 8 rfl))).trans (hS_c180 0 8 rfl)).trans ((show F15 0 8 = (updF F9 0 8 (z13)) 0 8 from (eF15 0 8))))) (u0_9) (((((((show F63 0 9 = F_c180 0 9 from (eF63 0 9).trans (hS63 0 9 rfl))).trans (hS_c180 0 9 rfl)).trans ((show F15 0 9 = (updF F9 0 8 (z13)) 0 9 from (eF15 0 9)))).trans ((show F9 0 9 = F 0 9 from (eF9 0 9)))).trans (eu0_9))) (u0_10) (((((((show F63 0 10 = F_c180 0 10 from (eF63 0 10).trans (hS63 0 10 rfl))).trans (hS_c180 0 10 rfl)).trans ((show F15 0 10 = (updF F9 0 8 (z13)) 0 10 from (eF15 0 10)))).trans ((show F9 0 10 = F 0 10 from (eF9 0 10)))).trans (eu0_10))) (y63_0_12) (((eF63 0 12).trans ey63_0_12)) (show inr (z63) from pz63_0) (show 0 ≤ (z63) ∧ (z63) ≤ 6 from q_2914 pz63_1) (show (z63) = 0 → a1 + 7 ≤ (y63_0_12) ∧ (y63_0_12) ≤ (u0_5) ∧ (u0_10) = (u2_1) ∧ 0 ≤ (u0_9) ∧ (u0_9) ≤ 4194304 from q_2947 b17 h3 pz63_1 pz63_2 r3 r4) (show (z63) = 0 → andI ((z13)) 8 = 0 ∨ a1 + 14 ≤ (u0_5) from q_2946 pz63_1))
                  refine w_ifeq (t := 179) rfl rfl (show inr (z48) from gz48) (fun b65 => ?_) (fun b65 => ?_)
                  · refine Ew_of (pcₚ := 180) (fun _ => x_iconst rfl) ?_
                    exact hc180 (0) _ _ _ _  (rk_o (rfl) rfl rfl) (rk_o (rfl) rfl rfl) (rk_s) H O (SF_refl) (SA_refl)     (show inr (0) from q_20) (show ((z48) = (0) ∧ (0) = (0)) ∨ ((z48) ≠ (0) ∧ (0) = (4)) from q_2468 b65)
                  · refine Ew_of (pcₚ := 176) (fun _ => x_iconst rfl) ?_
                    refine Ew_of (pcₚ := 180) (fun _ => x_goto rfl rfl) ?_
                    exact hc180 (4) _ _ _ _  (rk_o (rfl) rfl rfl) (rk_o (rfl) rfl rfl) (rk_s) H O (SF_refl) (SA_refl)     (show inr (4) from q_2) (show ((z48) = (0) ∧ (4) = (0)) ∨ ((z48) ≠ (0) ∧ (4) = (4)) from q_2469 b65)
              · exact hc136  _ _ _ _  (rk_o (rfl) rfl rfl) (rk_o (rfl) rfl rfl) H O (SF_refl) (SA_refl)     (show ((z22) ≠ (0)) ∨ ((z22) = (0) ∧ (z20) < (4)) ∨ ((z22) = (0) ∧ (z20) ≥ (4) ∧ (z20) > (7)) from q_2954 b25 b27)
        · refine Ew_of (pcₚ := 87) (fun _ => x_aload_n rfl rfl) ?_
          refine Ew_of (pcₚ := 88) (fun _ => x_iconst rfl) ?_
          refine Ew_of (pcₚ := 89) (fun _ => x_aload_n rfl rfl) ?_
          refine v_g H (o := 0) (v := I (u0_5)) rfl rfl rfl rfl rfl (congrArg (fun z : Int => I z) (((mF15 0 5 rfl).trans (eu0_5)) : F15 0 5 = u0_5)) ?_
          refine v_inv H (o := 0) rfl rfl rfl rfl rfl rfl (by rfl) (C221 (D := puc 0 D) (N := puc 0 N) (HW_subc H oz_D5cls_4 oz_D5cls_10) (u0_12) (((((show F15 0 12 = (updF F9 0 8 (z13)) 0 12 from (eF15 0 12))).trans ((show F9 0 12 = F 0 12 from (eF9 0 12)))).trans (eu0_12))) (show inr (1) from q_23) (show inr (u0_5) from q_884 h1) (fun z66 σ66 F66ₚ A66ₚ Hₚ Oₚ hS66 hA66 y66_0_12 ey66_0_12 pz66_0 pz66_1 pz66_2 => ⟨rfl, ?_⟩))
          refine v_backc (c := c) (s := s) H oz_D5cls_4 oz_D5cls_10 Hₚ Oₚ (fun F66 A66 H Oₚ eF66 eA66 => ?_)
          have O := OUT_trans O Oₚ
          -- Tokens.fail
          have cF66 : SF oz_D5clsl_0 F F66 := SF_trans (cF15) (SF_gluc (ι := oz_D5clsl_3) oz_D5cls_10 hS66 eF66 (by decide +kernel)) (any_sub (lₚ := [(0, 12)]) (by decide +kernel))
          have mF66 := SFm_of cF66 oz_D5cls_6
          have cA66 : SA oz_D5clsl_1 A A66 := SA_trans (cA15) (SA_gluc (ι := oz_D5clsl_3) oz_D5cls_10 hA66 eA66 (by decide +kernel)) (any_subA (lₚ := []) (by decide +kernel))
          have mA66 := SAm_of cA66 oz_D5cls_7
          have r67 : (-2147483648 : Int) ≤ y66_0_12 ∧ y66_0_12 ≤ 2147483647 := rngE (show (-2147483648 : Int) ≤ F66 0 12 ∧ F66 0 12 ≤ 2147483647 from H.krg 0 12 (ltn len_V227_oz_D5cls rfl)) (show F66 0 12 = y66_0_12 from ((eF66 0 12).trans ey66_0_12))
          exact w_ireturn rfl (k (z66) _ _ _ H O (cF66) (cA66) (z13) ((((show F66 0 8 = F15 0 8 from (eF66 0 8).trans (hS66 0 8 rfl))).trans ((show F15 0 8 = (updF F9 0 8 (z13)) 0 8 from (eF15 0 8))))) (u0_9) ((((((show F66 0 9 = F15 0 9 from (eF66 0 9).trans (hS66 0 9 rfl))).trans ((show F15 0 9 = (updF F9 0 8 (z13)) 0 9 from (eF15 0 9)))).trans ((show F9 0 9 = F 0 9 from (eF9 0 9)))).trans (eu0_9))) (u0_10) ((((((show F66 0 10 = F15 0 10 from (eF66 0 10).trans (hS66 0 10 rfl))).trans ((show F15 0 10 = (updF F9 0 8 (z13)) 0 10 from (eF15 0 10)))).trans ((show F9 0 10 = F 0 10 from (eF9 0 10)))).trans (eu0_10))) (y66_0_12) (((eF66 0 12).trans ey66_0_12)) (show inr (z66) from pz66_0) (show 0 ≤ (z66) ∧ (z66) ≤ 6 from q_2914 pz66_1) (show (z66) = 0 → a1 + 7 ≤ (y66_0_12) ∧ (y66_0_12) ≤ (u0_5) ∧ (u0_10) = (u2_1) ∧ 0 ≤ (u0_9) ∧ (u0_9) ≤ 4194304 from q_2955 b11 h3 pz66_1 pz66_2 r3 r4) (show (z66) = 0 → andI ((z13)) 8 = 0 ∨ a1 + 14 ≤ (u0_5) from q_2946 pz66_1))
      · refine Ew_of (pcₚ := 67) (fun _ => x_aload_n rfl rfl) ?_
        refine Ew_of (pcₚ := 68) (fun _ => x_iconst rfl) ?_
        refine Ew_of (pcₚ := 69) (fun _ => x_iload_n rfl rfl) ?_
        refine Ew_of (pcₚ := 70) (fun _ => x_iconst rfl) ?_
        refine w_iadd rfl ?_
        refine v_inv H (o := 0) rfl rfl rfl rfl rfl rfl (by rfl) (C221 (D := puc 0 D) (N := puc 0 N) (HW_subc H oz_D5cls_4 oz_D5cls_10) (u0_12) (((((show F15 0 12 = (updF F9 0 8 (z13)) 0 12 from (eF15 0 12))).trans ((show F9 0 12 = F 0 12 from (eF9 0 12)))).trans (eu0_12))) (show inr (5) from q_509) (show inr ((a1 + 4)) from q_2956 b11 h1 h2) (fun z68 σ68 F68ₚ A68ₚ Hₚ Oₚ hS68 hA68 y68_0_12 ey68_0_12 pz68_0 pz68_1 pz68_2 => ⟨rfl, ?_⟩))
        refine v_backc (c := c) (s := s) H oz_D5cls_4 oz_D5cls_10 Hₚ Oₚ (fun F68 A68 H Oₚ eF68 eA68 => ?_)
        have O := OUT_trans O Oₚ
        -- Tokens.fail
        have cF68 : SF oz_D5clsl_0 F F68 := SF_trans (cF15) (SF_gluc (ι := oz_D5clsl_3) oz_D5cls_10 hS68 eF68 (by decide +kernel)) (any_sub (lₚ := [(0, 12)]) (by decide +kernel))
        have mF68 := SFm_of cF68 oz_D5cls_6
        have cA68 : SA oz_D5clsl_1 A A68 := SA_trans (cA15) (SA_gluc (ι := oz_D5clsl_3) oz_D5cls_10 hA68 eA68 (by decide +kernel)) (any_subA (lₚ := []) (by decide +kernel))
        have mA68 := SAm_of cA68 oz_D5cls_7
        have r69 : (-2147483648 : Int) ≤ y68_0_12 ∧ y68_0_12 ≤ 2147483647 := rngE (show (-2147483648 : Int) ≤ F68 0 12 ∧ F68 0 12 ≤ 2147483647 from H.krg 0 12 (ltn len_V227_oz_D5cls rfl)) (show F68 0 12 = y68_0_12 from ((eF68 0 12).trans ey68_0_12))
        exact w_ireturn rfl (k (z68) _ _ _ H O (cF68) (cA68) (z13) ((((show F68 0 8 = F15 0 8 from (eF68 0 8).trans (hS68 0 8 rfl))).trans ((show F15 0 8 = (updF F9 0 8 (z13)) 0 8 from (eF15 0 8))))) (u0_9) ((((((show F68 0 9 = F15 0 9 from (eF68 0 9).trans (hS68 0 9 rfl))).trans ((show F15 0 9 = (updF F9 0 8 (z13)) 0 9 from (eF15 0 9)))).trans ((show F9 0 9 = F 0 9 from (eF9 0 9)))).trans (eu0_9))) (u0_10) ((((((show F68 0 10 = F15 0 10 from (eF68 0 10).trans (hS68 0 10 rfl))).trans ((show F15 0 10 = (updF F9 0 8 (z13)) 0 10 from (eF15 0 10)))).trans ((show F9 0 10 = F 0 10 from (eF9 0 10)))).trans (eu0_10))) (y68_0_12) (((eF68 0 12).trans ey68_0_12)) (show inr (z68) from pz68_0) (show 0 ≤ (z68) ∧ (z68) ≤ 6 from q_2917 pz68_1) (show (z68) = 0 → a1 + 7 ≤ (y68_0_12) ∧ (y68_0_12) ≤ (u0_5) ∧ (u0_10) = (u2_1) ∧ 0 ≤ (u0_9) ∧ (u0_9) ≤ 4194304 from q_2957 b11 h3 pz68_1 pz68_2 r3 r4) (show (z68) = 0 → andI ((z13)) 8 = 0 ∨ a1 + 14 ≤ (u0_5) from q_2932 pz68_1))
    · refine Ew_of (pcₚ := 31) (fun _ => x_aload_n rfl rfl) ?_
      refine Ew_of (pcₚ := 32) (fun _ => x_iconst rfl) ?_
      refine Ew_of (pcₚ := 33) (fun _ => x_aload_n rfl rfl) ?_
      refine v_g H (o := 0) (v := I (u0_5)) rfl rfl rfl rfl rfl (congrArg (fun z : Int => I z) (((mF9 0 5 rfl).trans (eu0_5)) : F9 0 5 = u0_5)) ?_
      refine v_inv H (o := 0) rfl rfl rfl rfl rfl rfl (by rfl) (C221 (D := puc 0 D) (N := puc 0 N) (HW_subc H oz_D5cls_4 oz_D5cls_10) (u0_12) ((((show F9 0 12 = F 0 12 from (eF9 0 12))).trans (eu0_12))) (show inr (1) from q_23) (show inr (u0_5) from q_884 h1) (fun z70 σ70 F70ₚ A70ₚ Hₚ Oₚ hS70 hA70 y70_0_12 ey70_0_12 pz70_0 pz70_1 pz70_2 => ⟨rfl, ?_⟩))
      refine v_backc (c := c) (s := s) H oz_D5cls_4 oz_D5cls_10 Hₚ Oₚ (fun F70 A70 H Oₚ eF70 eA70 => ?_)
      have O := OUT_trans O Oₚ
      -- Tokens.fail
      have cF70 : SF oz_D5clsl_0 F F70 := SF_trans (cF9) (SF_gluc (ι := oz_D5clsl_3) oz_D5cls_10 hS70 eF70 (by decide +kernel)) (any_sub (lₚ := [(0, 12)]) (by decide +kernel))
      have mF70 := SFm_of cF70 oz_D5cls_6
      have cA70 : SA oz_D5clsl_1 A A70 := SA_trans (cA9) (SA_gluc (ι := oz_D5clsl_3) oz_D5cls_10 hA70 eA70 (by decide +kernel)) (any_subA (lₚ := []) (by decide +kernel))
      have mA70 := SAm_of cA70 oz_D5cls_7
      have r71 : (-2147483648 : Int) ≤ y70_0_12 ∧ y70_0_12 ≤ 2147483647 := rngE (show (-2147483648 : Int) ≤ F70 0 12 ∧ F70 0 12 ≤ 2147483647 from H.krg 0 12 (ltn len_V227_oz_D5cls rfl)) (show F70 0 12 = y70_0_12 from ((eF70 0 12).trans ey70_0_12))
      exact w_ireturn rfl (k (z70) _ _ _ H O (cF70) (cA70) (u0_8) (((((show F70 0 8 = F9 0 8 from (eF70 0 8).trans (hS70 0 8 rfl))).trans ((show F9 0 8 = F 0 8 from (eF9 0 8)))).trans (eu0_8))) (u0_9) (((((show F70 0 9 = F9 0 9 from (eF70 0 9).trans (hS70 0 9 rfl))).trans ((show F9 0 9 = F 0 9 from (eF9 0 9)))).trans (eu0_9))) (u0_10) (((((show F70 0 10 = F9 0 10 from (eF70 0 10).trans (hS70 0 10 rfl))).trans ((show F9 0 10 = F 0 10 from (eF9 0 10)))).trans (eu0_10))) (y70_0_12) (((eF70 0 12).trans ey70_0_12)) (show inr (z70) from pz70_0) (show 0 ≤ (z70) ∧ (z70) ≤ 6 from q_2914 pz70_1) (show (z70) = 0 → a1 + 7 ≤ (y70_0_12) ∧ (y70_0_12) ≤ (u0_5) ∧ (u0_10) = (u2_1) ∧ 0 ≤ (u0_9) ∧ (u0_9) ≤ 4194304 from q_2958 h2 h3 pz70_1 pz70_2 r3 r4) (show (z70) = 0 → andI ((u0_8)) 8 = 0 ∨ a1 + 14 ≤ (u0_5) from q_2946 pz70_1))
  · refine Ew_of (pcₚ := 14) (fun _ => x_aload_n rfl rfl) ?_
    refine Ew_of (pcₚ := 15) (fun _ => x_iconst rfl) ?_
    refine Ew_of (pcₚ := 16) (fun _ => x_iload_n rfl rfl) ?_
    refine v_inv H (o := 0) rfl rfl rfl rfl rfl rfl (by rfl) (C221 (D := puc 0 D) (N := puc 0 N) (HW_subc H oz_D5cls_4 oz_D5cls_10) (u0_12) ((((show F9 0 12 = F 0 12 from (eF9 0 12))).trans (eu0_12))) (show inr (4) from q_2) (show inr (a1) from h0) (fun z72 σ72 F72ₚ A72ₚ Hₚ Oₚ hS72 hA72 y72_0_12 ey72_0_12 pz72_0 pz72_1 pz72_2 => ⟨rfl, ?_⟩))
    refine v_backc (c := c) (s := s) H oz_D5cls_4 oz_D5cls_10 Hₚ Oₚ (fun F72 A72 H Oₚ eF72 eA72 => ?_)
    have O := OUT_trans O Oₚ
    -- Tokens.fail
    have cF72 : SF oz_D5clsl_0 F F72 := SF_trans (cF9) (SF_gluc (ι := oz_D5clsl_3) oz_D5cls_10 hS72 eF72 (by decide +kernel)) (any_sub (lₚ := [(0, 12)]) (by decide +kernel))
    have mF72 := SFm_of cF72 oz_D5cls_6
    have cA72 : SA oz_D5clsl_1 A A72 := SA_trans (cA9) (SA_gluc (ι := oz_D5clsl_3) oz_D5cls_10 hA72 eA72 (by decide +kernel)) (any_subA (lₚ := []) (by decide +kernel))
    have mA72 := SAm_of cA72 oz_D5cls_7
    have r73 : (-2147483648 : Int) ≤ y72_0_12 ∧ y72_0_12 ≤ 2147483647 := rngE (show (-2147483648 : Int) ≤ F72 0 12 ∧ F72 0 12 ≤ 2147483647 from H.krg 0 12 (ltn len_V227_oz_D5cls rfl)) (show F72 0 12 = y72_0_12 from ((eF72 0 12).trans ey72_0_12))
    exact w_ireturn rfl (k (z72) _ _ _ H O (cF72) (cA72) (u0_8) (((((show F72 0 8 = F9 0 8 from (eF72 0 8).trans (hS72 0 8 rfl))).trans ((show F9 0 8 = F 0 8 from (eF9 0 8)))).trans (eu0_8))) (u0_9) (((((show F72 0 9 = F9 0 9 from (eF72 0 9).trans (hS72 0 9 rfl))).trans ((show F9 0 9 = F 0 9 from (eF9 0 9)))).trans (eu0_9))) (u0_10) (((((show F72 0 10 = F9 0 10 from (eF72 0 10).trans (hS72 0 10 rfl))).trans ((show F9 0 10 = F 0 10 from (eF9 0 10)))).trans (eu0_10))) (y72_0_12) (((eF72 0 12).trans ey72_0_12)) (show inr (z72) from pz72_0) (show 0 ≤ (z72) ∧ (z72) ≤ 6 from q_2919 pz72_1) (show (z72) = 0 → a1 + 7 ≤ (y72_0_12) ∧ (y72_0_12) ≤ (u0_5) ∧ (u0_10) = (u2_1) ∧ 0 ≤ (u0_9) ∧ (u0_9) ≤ 4194304 from q_2960 h2 h3 pz72_1 pz72_2 r3 r4) (show (z72) = 0 → andI ((u0_8)) 8 = 0 ∨ a1 + 14 ≤ (u0_5) from q_2959 pz72_1))
abbrev V229 : vV := [(0, 11, [(4, 0), (4, 0), (4, 0), (4, 0), (4, 0), (0, 0), (4, 0), (0, 0), (0, 0), (0, 0), (0, 0), (0, 0), (0, 0)]), (1, 0, []), (0, 7, [(4, 0), (0, 0), (1, 0), (0, 0), (0, 0)]), (1, 0, [])]
theorem len_V229_oz_D5cls : (V229).length = 4 := by decide +kernel
theorem oz_D5cls_12 : vsub V229 V161_Br [2, 1, 3] = true := by decide +kernel
theorem oz_D5cls_13 : vmov V229 [2, 1, 3] [2] = true := by decide +kernel
theorem oz_D5cls_14 : vsub V229 V221 [0] = true := by decide +kernel
def oz_D5clsl_4 : List (Nat × Nat) := [(0, 12), (2, 0), (2, 1), (2, 2)]
theorem oz_D5cls_15 : (oz_D5clsl_4).all (fun p => !tbz 129127208515966865408 (Nat.add (Nat.mul 32 p.1) p.2)) = true := by decide +kernel
def oz_D5clsl_5 : List Nat := [3]
theorem oz_D5cls_16 : (oz_D5clsl_5).all (fun p => !tbz 8 p) = true := by decide +kernel
def oz_D5clsl_6 : List Nat := [2, 1, 3]
theorem oz_D5cls_17 : okc oz_D5clsl_6 786946 = true := by decide +kernel
/-- Tokens.unpackPlain: this, this.in, this.result, this.result.bytes -/
theorem C229 {σE : rS} {D N : Nat → Nat} {F : hF} {A : hA} {d c s : Nat} {Q : wQ} (H : HW V229 σE D N F A) {a1 a2 a3 : Int} (pf1 : F 0 4 = (D 1 : Int)) (pf2 : F 0 6 = (D 2 : Int)) (pf3 : F 2 0 = (D 3 : Int)) (n1 : Int) (en1 : (N 1 : Int) = n1) (n3 : Int) (en3 : (N 3 : Int) = n3) (u2_1 : Int) (eu2_1 : F 2 1 = u2_1) (h0 : inr (a1)) (h1 : inr (a2)) (h2 : inr (a3)) (h3 : 0 ≤ (a1) ∧ 0 ≤ (a2) ∧ (a1) + (a2) ≤ (n1) ∧ (n1) ≤ 65536) (h4 : 0 ≤ (u2_1) ∧ (u2_1) ≤ (n3) ∧ (n3) ≤ 65536) (h5 : (u2_1) ≤ (a3) ∧ (a3) ≤ 65536) (k : ∀ (z : Int) (σ : rS) (Dₚ Nₚ : Nat → Nat) (Fₚ : hF) (Aₚ : hA) (cₚ sₚ : Nat), HW V229 σ Dₚ Nₚ Fₚ Aₚ → OUT (V229).length D N σE c s Dₚ Nₚ σ cₚ sₚ → SD [3] D Dₚ → SD [3] N Nₚ → SF [(0, 12), (2, 0), (2, 1), (2, 2)] F Fₚ → SA [3] A Aₚ → Fₚ 2 0 = (Dₚ 3 : Int) → ∀ m3 : Int, (Nₚ 3 : Int) = m3 → ∀ y2_1 : Int, Fₚ 2 1 = y2_1 → (inr (z)) → (0 ≤ (z) ∧ (z) ≤ 3) → (0 ≤ (y2_1) ∧ (y2_1) ≤ (m3) ∧ (m3) ≤ 65536) → ((u2_1) ≤ (y2_1) ∧ (y2_1) ≤ (a3)) → Q (some (I z)) σ cₚ sₚ) : Ew 229 (d + 3) 0 (rargs 0 [.ref (D 0), I a1, I a2, I a3]) [] σE c s Q := by
  have O := OUT_refl (n := (V229).length) (D := D) (N := N) (σ := σE) (c := c) (s := s)
  have HE := H
  have r1 : (-2147483648 : Int) ≤ u2_1 ∧ u2_1 ≤ 2147483647 := rngE (show (-2147483648 : Int) ≤ F 2 1 ∧ F 2 1 ≤ 2147483647 from H.krg 2 1 (ltn len_V229_oz_D5cls rfl)) (show F 2 1 = u2_1 from (eu2_1))
  have r2 : (0 : Int) ≤ n1 ∧ n1 ≤ 1000000 := nleE (H.nle 1 (ltn len_V229_oz_D5cls rfl)) (show (N 1 : Int) = n1 from en1)
  have r3 : (0 : Int) ≤ n3 ∧ n3 ≤ 1000000 := nleE (H.nle 3 (ltn len_V229_oz_D5cls rfl)) (show (N 3 : Int) = n3 from en3)
  refine Ew_of (pcₚ := 1) (fun _ => x_iload_n rfl rfl) ?_
  refine Ew_of (pcₚ := 2) (fun _ => x_aload_n rfl rfl) ?_
  refine v_g H (o := 0) (v := .ref (D 2)) rfl rfl rfl rfl rfl (vrf (pf2)) ?_
  refine v_g H (o := 2) (v := I (u2_1)) rfl rfl rfl rfl rfl (congrArg (fun z : Int => I z) ((eu2_1) : F 2 1 = u2_1)) ?_
  refine w_isub rfl ?_
  refine Ew_of (pcₚ := 11) (fun _ => x_istore rfl) ?_
  refine Ew_of (pcₚ := 12) (fun _ => x_iload_n rfl (rk_o (rfl) rfl rfl)) ?_
  refine Ew_of (pcₚ := 14) (fun _ => x_iload rfl rk_s) ?_
  refine w_icmple (t := 27) rfl rfl (show inr (a2) from h1) (show inr ((a3 - u2_1)) from q_2961 h4 h5) (fun b4 => ?_) (fun b4 => ?_)
  · refine Ew_of (pcₚ := 28) (fun _ => x_aload_n rfl (rk_o (rfl) rfl rfl)) ?_
    refine v_g H (o := 0) (v := .ref (D 2)) rfl rfl rfl rfl rfl (vrf (pf2)) ?_
    refine Ew_of (pcₚ := 32) (fun _ => x_aload_n rfl (rk_o (rfl) rfl rfl)) ?_
    refine v_g H (o := 0) (v := .ref (D 1)) rfl rfl rfl rfl rfl (vrf (pf1)) ?_
    refine Ew_of (pcₚ := 36) (fun _ => x_iload_n rfl (rk_o (rfl) rfl rfl)) ?_
    refine Ew_of (pcₚ := 37) (fun _ => x_iload_n rfl (rk_o (rfl) rfl rfl)) ?_
    refine v_inv H (o := 2) rfl rfl rfl rfl rfl rfl (by rfl) (C161_Br (D := puc 786946 D) (N := puc 786946 N) (HW_subc H oz_D5cls_12 oz_D5cls_17) (pf3) (n1) (en1) (n3) (en3) (u2_1) ((eu2_1)) (A 3) (rfl) (show inr (a1) from h0) (show inr (a2) from h1) (show 0 ≤ (u2_1) ∧ (u2_1) ≤ (n3) ∧ (n3) ≤ 65536 from h4) (show (a2) < 0 ∨ 0 ≤ (a1) ∧ (a1) + (a2) ≤ (n1) from q_2962 h3) (fun σ5 D5ₚ N5ₚ F5ₚ A5ₚ c5 s5 Hₚ Oₚ hD5 hN5 hS5 hA5 pm5_2 m5_2 em5_2 y5_0_1 ey5_0_1 w5_2 ew5_2 pz5_0 pz5_1 pz5_2 => ⟨rfl, ?_⟩))
    refine v_backMc (c := c) (s := s) H oz_D5cls_12 oz_D5cls_17 Hₚ Oₚ hD5 oz_D5cls_13 (fun D5 N5 F5 A5 H Oₚ eD5 eN5 eF5 eA5 => ?_)
    have O := OUT_trans O Oₚ
    -- Row.addPart
    have cF5 : SF oz_D5clsl_4 F F5 := SF_trans (SF_refl) (SF_gluc (ι := oz_D5clsl_6) oz_D5cls_17 hS5 eF5 (by decide +kernel)) (any_sub (lₚ := [(2, 0), (2, 1), (2, 2)]) (by decide +kernel))
    have mF5 := SFm_of cF5 oz_D5cls_15
    have cA5 : SA oz_D5clsl_5 A A5 := SA_trans (SA_refl) (SA_gluc (ι := oz_D5clsl_6) oz_D5cls_17 hA5 eA5 (by decide +kernel)) (any_subA (lₚ := [3]) (by decide +kernel))
    have mA5 := SAm_of cA5 oz_D5cls_16
    have cD5 : SD oz_D5clsl_5 D D5 := SD_trans (SD_refl) (SD_gluc (ι := oz_D5clsl_6) oz_D5cls_17 hD5 eD5 (by decide +kernel)) (any_subA (lₚ := [3]) (by decide +kernel))
    have mD5 := SDm_of cD5 oz_D5cls_16
    have cN5 : SD oz_D5clsl_5 N N5 := SD_trans (SD_refl) (SD_gluc (ι := oz_D5clsl_6) oz_D5cls_17 hN5 eN5 (by decide +kernel)) (any_subA (lₚ := [3]) (by decide +kernel))
    have mN5 := SDm_of cN5 oz_D5cls_16
    have pf5_2_0 : F5 2 0 = (D5 3 : Int) := (eF5 2 0).trans (pm5_2.trans (congrArg (fun q : Nat => (q : Int)) (eD5 3).symm))
    have r6 : (0 : Int) ≤ m5_2 ∧ m5_2 ≤ 1000000 := nleE (H.nle 3 (ltn len_V229_oz_D5cls rfl)) (show (N5 3 : Int) = m5_2 from (congrArg (fun q : Nat => (q : Int)) (eN5 3)).trans em5_2)
    have r7 : (-2147483648 : Int) ≤ y5_0_1 ∧ y5_0_1 ≤ 2147483647 := rngE (show (-2147483648 : Int) ≤ F5 2 1 ∧ F5 2 1 ≤ 2147483647 from H.krg 2 1 (ltn len_V229_oz_D5cls rfl)) (show F5 2 1 = y5_0_1 from ((eF5 2 1).trans ey5_0_1))
    refine Ew_of (pcₚ := 41) (fun _ => x_iconst rfl) ?_
    exact w_ireturn rfl (k (0) _ _ _ _ _ _ _ H O (cD5) (cN5) (cF5) (cA5) (pf5_2_0) (m5_2) ((congrArg (fun q : Nat => (q : Int)) (eN5 3)).trans em5_2) (y5_0_1) (((eF5 2 1).trans ey5_0_1)) (show inr (0) from q_20) (show 0 ≤ (0) ∧ (0) ≤ 3 by first | exact q_309 | omega) (show 0 ≤ (y5_0_1) ∧ (y5_0_1) ≤ (m5_2) ∧ (m5_2) ≤ 65536 from pz5_0) (show (u2_1) ≤ (y5_0_1) ∧ (y5_0_1) ≤ a3 from q_2963 b4 h3 h5 pz5_1))
  · refine Ew_of (pcₚ := 18) (fun _ => x_aload_n rfl (rk_o (rfl) rfl rfl)) ?_
    refine Ew_of (pcₚ := 19) (fun _ => x_iconst rfl) ?_
    refine Ew_of (pcₚ := 20) (fun _ => x_iload_n rfl (rk_o (rfl) rfl rfl)) ?_
    refine Ew_of (pcₚ := 22) (fun _ => x_iload rfl rk_s) ?_
    refine w_iadd rfl ?_
    have r8 : (-2147483648 : Int) ≤ F 0 12 ∧ F 0 12 ≤ 2147483647 := H.krg 0 12 (ltn len_V229_oz_D5cls rfl)
    refine v_inv H (o := 0) rfl rfl rfl rfl rfl rfl (by rfl) (C221 (D := puc 0 D) (N := puc 0 N) (HW_subc H oz_D5cls_14 oz_D5cls_10) (F 0 12) (rfl) (show inr (3) from q_66) (show inr ((a1 + (a3 - u2_1))) from q_2964 b4 h3 h5) (fun z9 σ9 F9ₚ A9ₚ Hₚ Oₚ hS9 hA9 y9_0_12 ey9_0_12 pz9_0 pz9_1 pz9_2 => ⟨rfl, ?_⟩))
    refine v_backc (c := c) (s := s) H oz_D5cls_14 oz_D5cls_10 Hₚ Oₚ (fun F9 A9 H Oₚ eF9 eA9 => ?_)
    have O := OUT_trans O Oₚ
    -- Tokens.fail
    have cF9 : SF oz_D5clsl_4 F F9 := SF_trans (SF_refl) (SF_gluc (ι := oz_D5clsl_3) oz_D5cls_10 hS9 eF9 (by decide +kernel)) (any_sub (lₚ := [(0, 12)]) (by decide +kernel))
    have mF9 := SFm_of cF9 oz_D5cls_15
    have cA9 : SA oz_D5clsl_5 A A9 := SA_trans (SA_refl) (SA_gluc (ι := oz_D5clsl_3) oz_D5cls_10 hA9 eA9 (by decide +kernel)) (any_subA (lₚ := []) (by decide +kernel))
    have mA9 := SAm_of cA9 oz_D5cls_16
    have r10 : (-2147483648 : Int) ≤ y9_0_12 ∧ y9_0_12 ≤ 2147483647 := rngE (show (-2147483648 : Int) ≤ F9 0 12 ∧ F9 0 12 ≤ 2147483647 from H.krg 0 12 (ltn len_V229_oz_D5cls rfl)) (show F9 0 12 = y9_0_12 from ((eF9 0 12).trans ey9_0_12))
    exact w_ireturn rfl (k (z9) _ _ _ _ _ _ _ H O (SD_refl) (SD_refl) (cF9) (cA9) ((((show F9 2 0 = F 2 0 from (eF9 2 0)))).trans (pf3)) (n3) (en3) (u2_1) ((((show F9 2 1 = F 2 1 from (eF9 2 1))).trans (eu2_1))) (show inr (z9) from pz9_0) (show 0 ≤ (z9) ∧ (z9) ≤ 3 from q_2809 pz9_1) (show 0 ≤ (u2_1) ∧ (u2_1) ≤ (n3) ∧ (n3) ≤ 65536 from h4) (show (u2_1) ≤ (u2_1) ∧ (u2_1) ≤ a3 from q_2965 h5))
abbrev V228 : vV := [(0, 11, [(4, 0), (4, 0), (4, 0), (4, 0), (4, 0), (0, 0), (4, 0), (0, 0), (0, 0), (0, 0), (0, 0), (0, 0), (0, 0)]), (1, 0, []), (0, 7, [(4, 0), (0, 0), (1, 0), (0, 0), (0, 0)]), (1, 0, []), (0, 7, [(4, 0), (0, 0), (1, 0), (0, 0), (0, 0)]), (1, 0, [])]
theorem len_V228_oz_D5cls : (V228).length = 6 := by decide +kernel
theorem oz_D5cls_19 : vsub V228 V221 [0] = true := by decide +kernel
theorem oz_D5cls_20 : vsub V228 V41_Br [1] = true := by decide +kernel
theorem oz_D5cls_21 : vsub V228 V224 [0, 1, 2, 3, 4, 5] = true := by decide +kernel
theorem oz_D5cls_22 : vmov V228 [0, 1, 2, 3, 4, 5] [3] = true := by decide +kernel
theorem oz_D5cls_23 : vsub V228 V229 [0, 1, 2, 3] = true := by decide +kernel
theorem oz_D5cls_24 : vmov V228 [0, 1, 2, 3] [3] = true := by decide +kernel
theorem oz_D5cls_25 : vsub V228 V49_Br [1] = true := by decide +kernel
def oz_D5clsl_7 : List (Nat × Nat) := [(0, 11), (0, 12), (2, 0), (2, 1), (2, 2)]
theorem oz_D5cls_26 : (oz_D5clsl_7).all (fun p => !tbz 129127208515966867456 (Nat.add (Nat.mul 32 p.1) p.2)) = true := by decide +kernel
def oz_D5clsl_8 : List Nat := [0, 1, 2, 3, 4, 5]
theorem oz_D5cls_27 : okc oz_D5clsl_8 176197141529088 = true := by decide +kernel
def oz_D5clsl_9 : List Nat := [0, 1, 2, 3]
theorem oz_D5cls_28 : okc oz_D5clsl_9 403177984 = true := by decide +kernel
/-- Tokens.unpackBlocks: this, this.in, this.result, this.result.bytes, this.past, this.past.bytes -/
theorem C228 {σE : rS} {D N : Nat → Nat} {F : hF} {A : hA} {d c s : Nat} {Q : wQ} (H : HW V228 σE D N F A) {a1 : Int} (pf1 : F 0 4 = (D 1 : Int)) (pf2 : F 0 6 = (D 2 : Int)) (pf3 : F 2 0 = (D 3 : Int)) (pf4 : F 0 1 = (D 4 : Int)) (pf5 : F 4 0 = (D 5 : Int)) (n1 : Int) (en1 : (N 1 : Int) = n1) (n3 : Int) (en3 : (N 3 : Int) = n3) (n5 : Int) (en5 : (N 5 : Int) = n5) (u0_5 : Int) (eu0_5 : F 0 5 = u0_5) (u0_7 : Int) (eu0_7 : F 0 7 = u0_7) (u0_9 : Int) (eu0_9 : F 0 9 = u0_9) (u0_10 : Int) (eu0_10 : F 0 10 = u0_10) (u0_12 : Int) (eu0_12 : F 0 12 = u0_12) (u2_1 : Int) (eu2_1 : F 2 1 = u2_1) (u4_1 : Int) (eu4_1 : F 4 1 = u4_1) (h0 : inr (a1)) (h1 : 0 ≤ (u0_5) ∧ (u0_5) ≤ (n1) ∧ (n1) ≤ 65536) (h2 : 0 ≤ (a1) ∧ (a1) ≤ (u0_5)) (h3 : 0 ≤ (u2_1) ∧ (u2_1) ≤ (n3) ∧ (n3) ≤ 65536) (h4 : 0 ≤ (u4_1) ∧ (u4_1) ≤ (n5) ∧ (n5) ≤ 65536) (h5 : 0 ≤ (u0_7) ∧ (u0_7) ≤ 65536 ∧ (u2_1) ≤ (u0_7)) (h6 : 0 ≤ (u0_10) ∧ (u0_10) ≤ (u2_1)) (h7 : 0 ≤ (u0_9) ∧ (u0_9) ≤ 4194304) (k : ∀ (z : Int) (σ : rS) (Dₚ Nₚ : Nat → Nat) (Fₚ : hF) (Aₚ : hA) (cₚ sₚ : Nat), HW V228 σ Dₚ Nₚ Fₚ Aₚ → OUT (V228).length D N σE c s Dₚ Nₚ σ cₚ sₚ → SD [3] D Dₚ → SD [3] N Nₚ → SF [(0, 11), (0, 12), (2, 0), (2, 1), (2, 2)] F Fₚ → SA [3] A Aₚ → Fₚ 2 0 = (Dₚ 3 : Int) → ∀ m3 : Int, (Nₚ 3 : Int) = m3 → ∀ y0_12 : Int, Fₚ 0 12 = y0_12 → ∀ y2_1 : Int, Fₚ 2 1 = y2_1 → (inr (z)) → (0 ≤ (z) ∧ (z) ≤ 9) → (0 ≤ (y2_1) ∧ (y2_1) ≤ (m3) ∧ (m3) ≤ 65536) → ((u2_1) ≤ (y2_1) ∧ (y2_1) ≤ (u0_7)) → ((z) = 0 → (a1) + 4 ≤ (y0_12) ∧ (y0_12) ≤ (u0_5)) → Q (some (I z)) σ cₚ sₚ) : Ew 228 (d + 4) 0 (rargs 0 [.ref (D 0), I a1]) [] σE c s Q := by
  have O := OUT_refl (n := (V228).length) (D := D) (N := N) (σ := σE) (c := c) (s := s)
  have HE := H
  have r1 : (-2147483648 : Int) ≤ u0_5 ∧ u0_5 ≤ 2147483647 := rngE (show (-2147483648 : Int) ≤ F 0 5 ∧ F 0 5 ≤ 2147483647 from H.krg 0 5 (ltn len_V228_oz_D5cls rfl)) (show F 0 5 = u0_5 from (eu0_5))
  have r2 : (-2147483648 : Int) ≤ u0_7 ∧ u0_7 ≤ 2147483647 := rngE (show (-2147483648 : Int) ≤ F 0 7 ∧ F 0 7 ≤ 2147483647 from H.krg 0 7 (ltn len_V228_oz_D5cls rfl)) (show F 0 7 = u0_7 from (eu0_7))
  have r3 : (-2147483648 : Int) ≤ u0_9 ∧ u0_9 ≤ 2147483647 := rngE (show (-2147483648 : Int) ≤ F 0 9 ∧ F 0 9 ≤ 2147483647 from H.krg 0 9 (ltn len_V228_oz_D5cls rfl)) (show F 0 9 = u0_9 from (eu0_9))
  have r4 : (-2147483648 : Int) ≤ u0_10 ∧ u0_10 ≤ 2147483647 := rngE (show (-2147483648 : Int) ≤ F 0 10 ∧ F 0 10 ≤ 2147483647 from H.krg 0 10 (ltn len_V228_oz_D5cls rfl)) (show F 0 10 = u0_10 from (eu0_10))
  have r5 : (-2147483648 : Int) ≤ u0_12 ∧ u0_12 ≤ 2147483647 := rngE (show (-2147483648 : Int) ≤ F 0 12 ∧ F 0 12 ≤ 2147483647 from H.krg 0 12 (ltn len_V228_oz_D5cls rfl)) (show F 0 12 = u0_12 from (eu0_12))
  have r6 : (-2147483648 : Int) ≤ u2_1 ∧ u2_1 ≤ 2147483647 := rngE (show (-2147483648 : Int) ≤ F 2 1 ∧ F 2 1 ≤ 2147483647 from H.krg 2 1 (ltn len_V228_oz_D5cls rfl)) (show F 2 1 = u2_1 from (eu2_1))
  have r7 : (-2147483648 : Int) ≤ u4_1 ∧ u4_1 ≤ 2147483647 := rngE (show (-2147483648 : Int) ≤ F 4 1 ∧ F 4 1 ≤ 2147483647 from H.krg 4 1 (ltn len_V228_oz_D5cls rfl)) (show F 4 1 = u4_1 from (eu4_1))
  have r8 : (0 : Int) ≤ n1 ∧ n1 ≤ 1000000 := nleE (H.nle 1 (ltn len_V228_oz_D5cls rfl)) (show (N 1 : Int) = n1 from en1)
  have r9 : (0 : Int) ≤ n3 ∧ n3 ≤ 1000000 := nleE (H.nle 3 (ltn len_V228_oz_D5cls rfl)) (show (N 3 : Int) = n3 from en3)
  have r10 : (0 : Int) ≤ n5 ∧ n5 ≤ 1000000 := nleE (H.nle 5 (ltn len_V228_oz_D5cls rfl)) (show (N 5 : Int) = n5 from en5)
  refine Ew_of (pcₚ := 1) (fun _ => x_iload_n rfl rfl) ?_
  refine Ew_of (pcₚ := 2) (fun _ => x_istore_n rfl) ?_
  refine Ew_of (pcₚ := 3) (fun _ => x_iload_n rfl (rk_o (rfl) rfl rfl)) ?_
  refine Ew_of (pcₚ := 4) (fun _ => x_istore_n rfl) ?_
  suffices hl4 : ∀ (m : Nat), ∀ (ls : rO) (σ : rS) (D_4 N_4 : Nat → Nat) (c_4 s_4 : Nat) (F_4 : hF) (A_4 : hA) (x4_2 : Int) (x4_3 : Int), rlook ls 0 = some (.ref (D_4 0)) → rlook ls 2 = some (I (x4_2)) → rlook ls 3 = some (I (x4_3)) → HW V228 σ D_4 N_4 F_4 A_4 → OUT (V228).length D N σE c s D_4 N_4 σ c_4 s_4 → SD [3] D D_4 → SD [3] N N_4 → SF [(0, 11), (0, 12), (2, 0), (2, 1), (2, 2)] F F_4 → SA [3] A A_4 → F_4 2 0 = (D_4 3 : Int) → ∀ m4_3 : Int, (N_4 3 : Int) = m4_3 → ∀ y4_2_1 : Int, F_4 2 1 = y4_2_1 → (inr (x4_2)) → (inr (x4_3)) → ((a1) ≤ (x4_3)) → ((x4_3) ≤ (a1) ∨ (x4_3) ≤ (((u0_5) + 1))) → ((a1) ≤ (x4_2) ∧ (x4_2) ≤ (u0_5)) → (0 ≤ (y4_2_1) ∧ (y4_2_1) ≤ (m4_3) ∧ (m4_3) ≤ 65536) → ((u2_1) ≤ (y4_2_1) ∧ (y4_2_1) ≤ (u0_7)) → ((((u0_5) + 1)) - (x4_3)).toNat = m → Ew 228 (d + 4) 4 ls [] σ c_4 s_4 Q from
    hl4 _ _ _ _ _ _ _ _ _ (a1) (a1) (rk_o (rk_o (rfl) rfl rfl) rfl rfl) (rk_o (rk_s) rfl rfl) (rk_s) H O (SD_refl) (SD_refl) (SF_refl) (SA_refl) (pf3) (n3) (en3) (u2_1) ((eu2_1))  (show inr (a1) from h0) (show inr (a1) from h0) (show (a1) ≤ (a1) from q_102) (show (a1) ≤ (a1) ∨ (a1) ≤ (((u0_5) + 1)) from q_2798) (show (a1) ≤ (a1) ∧ (a1) ≤ (u0_5) from q_763 h2) (show 0 ≤ (u2_1) ∧ (u2_1) ≤ (n3) ∧ (n3) ≤ 65536 from h3) (show (u2_1) ≤ (u2_1) ∧ (u2_1) ≤ (u0_7) from q_518 h5) rfl
  as_aux_lemma =>
  intro m
  induction m using Nat.strongRecOn with
  | _ m ih4 =>
    intro ls σ D_4 N_4 c_4 s_4 F_4 A_4 x4_2 x4_3 l4_0 l4_2 l4_3 H O hD_4 hN_4 hS_4 hA_4 pm4_3 m4_3 em4_3 y4_2_1 ey4_2_1  j4_0 j4_1 j4_2 j4_3 j4_4 j4_5 j4_6 hm4
    have cF_4 : SF oz_D5clsl_7 F F_4 := SF_trans (SF_refl) hS_4 (any_sub (by decide +kernel))
    have mF_4 := SFm_of cF_4 oz_D5cls_26
    have cA_4 : SA oz_D5clsl_5 A A_4 := SA_trans (SA_refl) hA_4 (any_subA (by decide +kernel))
    have mA_4 := SAm_of cA_4 oz_D5cls_16
    have cD_4 : SD oz_D5clsl_5 D D_4 := SD_trans (SD_refl) hD_4 (any_subA (by decide +kernel))
    have mD_4 := SDm_of cD_4 oz_D5cls_16
    have cN_4 : SD oz_D5clsl_5 N N_4 := SD_trans (SD_refl) hN_4 (any_subA (by decide +kernel))
    have mN_4 := SDm_of cN_4 oz_D5cls_16
    have r11 : (0 : Int) ≤ m4_3 ∧ m4_3 ≤ 1000000 := nleE (H.nle 3 (ltn len_V228_oz_D5cls rfl)) (show (N_4 3 : Int) = m4_3 from em4_3)
    have r12 : (-2147483648 : Int) ≤ y4_2_1 ∧ y4_2_1 ≤ 2147483647 := rngE (show (-2147483648 : Int) ≤ F_4 2 1 ∧ F_4 2 1 ≤ 2147483647 from H.krg 2 1 (ltn len_V228_oz_D5cls rfl)) (show F_4 2 1 = y4_2_1 from (ey4_2_1))
    refine Ew_of (pcₚ := 5) (fun _ => x_iload_n rfl l4_3) ?_
    refine Ew_of (pcₚ := 6) (fun _ => x_aload_n rfl l4_0) ?_
    refine v_g H (o := 0) (v := I (u0_5)) rfl rfl rfl rfl rfl (congrArg (fun z : Int => I z) (((mF_4 0 5 rfl).trans (eu0_5)) : F_4 0 5 = u0_5)) ?_
    refine w_icmpgt (t := 290) rfl rfl (show inr (x4_3) from j4_1) (show inr (u0_5) from q_884 h1) (fun b13 => ?_) (fun b13 => ?_)
    · refine Ew_of (pcₚ := 291) (fun _ => x_aload_n rfl l4_0) ?_
      refine Ew_of (pcₚ := 292) (fun _ => x_iconst rfl) ?_
      refine Ew_of (pcₚ := 293) (fun _ => x_aload_n rfl l4_0) ?_
      refine v_g H (o := 0) (v := I (u0_5)) rfl rfl rfl rfl rfl (congrArg (fun z : Int => I z) (((mF_4 0 5 rfl).trans (eu0_5)) : F_4 0 5 = u0_5)) ?_
      have r14 : (-2147483648 : Int) ≤ F_4 0 12 ∧ F_4 0 12 ≤ 2147483647 := H.krg 0 12 (ltn len_V228_oz_D5cls rfl)
      refine v_inv H (o := 0) rfl rfl rfl rfl rfl rfl (by rfl) (C221 (D := puc 0 D_4) (N := puc 0 N_4) (HW_subc H oz_D5cls_19 oz_D5cls_10) (F_4 0 12) (rfl) (show inr (1) from q_23) (show inr (u0_5) from q_884 h1) (fun z15 σ15 F15ₚ A15ₚ Hₚ Oₚ hS15 hA15 y15_0_12 ey15_0_12 pz15_0 pz15_1 pz15_2 => ⟨rfl, ?_⟩))
      refine v_backc (c := c_4) (s := s_4) H oz_D5cls_19 oz_D5cls_10 Hₚ Oₚ (fun F15 A15 H Oₚ eF15 eA15 => ?_)
      have O := OUT_trans O Oₚ
      -- Tokens.fail
      have cF15 : SF oz_D5clsl_7 F F15 := SF_trans (cF_4) (SF_gluc (ι := oz_D5clsl_3) oz_D5cls_10 hS15 eF15 (by decide +kernel)) (any_sub (lₚ := [(0, 12)]) (by decide +kernel))
      have mF15 := SFm_of cF15 oz_D5cls_26
      have cA15 : SA oz_D5clsl_5 A A15 := SA_trans (cA_4) (SA_gluc (ι := oz_D5clsl_3) oz_D5cls_10 hA15 eA15 (by decide +kernel)) (any_subA (lₚ := []) (by decide +kernel))
      have mA15 := SAm_of cA15 oz_D5cls_16
      have r16 : (-2147483648 : Int) ≤ y15_0_12 ∧ y15_0_12 ≤ 2147483647 := rngE (show (-2147483648 : Int) ≤ F15 0 12 ∧ F15 0 12 ≤ 2147483647 from H.krg 0 12 (ltn len_V228_oz_D5cls rfl)) (show F15 0 12 = y15_0_12 from ((eF15 0 12).trans ey15_0_12))
      exact w_ireturn rfl (k (z15) _ _ _ _ _ _ _ H O (cD_4) (cN_4) (cF15) (cA15) ((((show F15 2 0 = F_4 2 0 from (eF15 2 0)))).trans (pm4_3)) (m4_3) (em4_3) (y15_0_12) (((eF15 0 12).trans ey15_0_12)) (y4_2_1) ((((show F15 2 1 = F_4 2 1 from (eF15 2 1))).trans (ey4_2_1))) (show inr (z15) from pz15_0) (show 0 ≤ (z15) ∧ (z15) ≤ 9 from q_2967 pz15_1) (show 0 ≤ (y4_2_1) ∧ (y4_2_1) ≤ (m4_3) ∧ (m4_3) ≤ 65536 from j4_5) (show (u2_1) ≤ (y4_2_1) ∧ (y4_2_1) ≤ (u0_7) from j4_6) (show (z15) = 0 → a1 + 4 ≤ (y15_0_12) ∧ (y15_0_12) ≤ (u0_5) from q_2966 h2 pz15_1 pz15_2))
    · refine Ew_of (pcₚ := 13) (fun _ => x_aload_n rfl l4_0) ?_
      refine v_g H (o := 0) (v := I (u0_5)) rfl rfl rfl rfl rfl (congrArg (fun z : Int => I z) (((mF_4 0 5 rfl).trans (eu0_5)) : F_4 0 5 = u0_5)) ?_
      refine Ew_of (pcₚ := 17) (fun _ => x_iload_n rfl l4_2) ?_
      refine w_isub rfl ?_
      refine Ew_of (pcₚ := 19) (fun _ => x_iconst rfl) ?_
      refine w_icmpge (t := 32) rfl rfl (show inr ((u0_5 - x4_2)) from q_2968 h1 h2 j4_4) (show inr (4) from q_2) (fun b17 => ?_) (fun b17 => ?_)
      · refine Ew_of (pcₚ := 33) (fun _ => x_aload_n rfl l4_0) ?_
        refine v_g H (o := 0) (v := .ref (D_4 1)) rfl rfl rfl rfl rfl (vrf ((mF_4 0 4 rfl).trans ((pf1).trans (congrArg (fun q : Nat => (q : Int)) (mD_4 1 rfl).symm)))) ?_
        refine Ew_of (pcₚ := 37) (fun _ => x_iload_n rfl l4_2) ?_
        refine w_stat25 rfl rfl (by rfl) (C41_Br (D := puc 1 D_4) (N := puc 1 N_4) (HW_subc H oz_D5cls_20 oz_D5cls_8) (n1) ((congrArg (fun q : Nat => (q : Int)) (mN_4 1 rfl)).trans (en1)) (show inr (x4_2) from j4_0) (show 0 ≤ (x4_2) ∧ (x4_2) + 4 ≤ (n1) from q_2969 b17 h1 h2 j4_4) (fun z18 σ18 F18ₚ A18ₚ Hₚ Oₚ hS18 hA18 pz18_0 => ⟨rfl, ?_⟩))
        refine v_backc (c := c_4) (s := s_4) H oz_D5cls_20 oz_D5cls_8 Hₚ Oₚ (fun F18 A18 H Oₚ eF18 eA18 => ?_)
        have O := OUT_trans O Oₚ
        -- PackHouse.word
        have cF18 : SF oz_D5clsl_7 F F18 := SF_trans (cF_4) (SF_gluc (ι := oz_D5clsl_2) oz_D5cls_8 hS18 eF18 (by decide +kernel)) (any_sub (lₚ := []) (by decide +kernel))
        have mF18 := SFm_of cF18 oz_D5cls_26
        have cA18 : SA oz_D5clsl_5 A A18 := SA_trans (cA_4) (SA_gluc (ι := oz_D5clsl_2) oz_D5cls_8 hA18 eA18 (by decide +kernel)) (any_subA (lₚ := []) (by decide +kernel))
        have mA18 := SAm_of cA18 oz_D5cls_16
        refine Ew_of (pcₚ := 42) (fun _ => x_istore rfl) ?_
        refine Ew_of (pcₚ := 44) (fun _ => x_iload rfl rk_s) ?_
        refine Ew_of (pcₚ := 46) (fun _ => x_ldc (z := 2147483647) rfl (by decide)) ?_
        refine w_iand rfl (show inr (z18) from pz18_0) (show inr (2147483647) from q_2970) (fun z19 gz19 gaz19 gbz19 => ?_)
        refine Ew_of (pcₚ := 49) (fun _ => x_istore rfl) ?_
        refine Ew_of (pcₚ := 51) (fun _ => x_iload rfl (rk_o (rk_s) rfl rfl)) ?_
        refine w_ifne (t := 63) rfl rfl (show inr (z18) from pz18_0) (fun b20 => ?_) (fun b20 => ?_)
        · refine Ew_of (pcₚ := 65) (fun _ => x_iload rfl rk_s) ?_
          refine Ew_of (pcₚ := 66) (fun _ => x_aload_n rfl (rk_o (rk_o (l4_0) rfl rfl) rfl rfl)) ?_
          refine v_g H (o := 0) (v := I (u0_9)) rfl rfl rfl rfl rfl (congrArg (fun z : Int => I z) (((mF18 0 9 rfl).trans (eu0_9)) : F18 0 9 = u0_9)) ?_
          refine w_icmple (t := 80) rfl rfl (show inr (z19) from gz19) (show inr (u0_9) from q_2971 h7 r3) (fun b21 => ?_) (fun b21 => ?_)
          · refine Ew_of (pcₚ := 81) (fun _ => x_iload_n rfl (rk_o (rk_o (l4_2) rfl rfl) rfl rfl)) ?_
            refine Ew_of (pcₚ := 82) (fun _ => x_iconst rfl) ?_
            refine w_iadd rfl ?_
            refine Ew_of (pcₚ := 85) (fun _ => x_istore rfl) ?_
            refine Ew_of (pcₚ := 86) (fun _ => x_aload_n rfl (rk_o (rk_o (rk_o (l4_0) rfl rfl) rfl rfl) rfl rfl)) ?_
            have r22 : (-2147483648 : Int) ≤ F 0 8 ∧ F 0 8 ≤ 2147483647 := rngE (show (-2147483648 : Int) ≤ F18 0 8 ∧ F18 0 8 ≤ 2147483647 from H.krg 0 8 (ltn len_V228_oz_D5cls rfl)) (show F18 0 8 = F 0 8 from (mF18 0 8 rfl))
            refine v_g H (o := 0) (v := I (F 0 8)) rfl rfl rfl rfl rfl (congrArg (fun z : Int => I z) ((mF18 0 8 rfl) : F18 0 8 = F 0 8)) ?_
            refine Ew_of (pcₚ := 91) (fun _ => x_bipush (z := 16) rfl (by decide)) ?_
            refine w_iand rfl (show inr (F 0 8) from q_22 r22) (show inr (16) from q_86) (fun z23 gz23 gaz23 gbz23 => ?_)
            have hc100 : ∀ (tc100_0 : Int), ∀ (ls : rO) (σ : rS) (F_c100 : hF) (A_c100 : hA) , rlook ls 0 = some (.ref (D_4 0)) → rlook ls 3 = some (I (x4_3)) → rlook ls 4 = some (I (z18)) → rlook ls 5 = some (I (z19)) → rlook ls 6 = some (I ((x4_2 + 4))) → HW V228 σ D_4 N_4 F_c100 A_c100 → OUT (V228).length D N σE c s D_4 N_4 σ c_4 s_4 → SF [] F18 F_c100 → SA [] A18 A_c100 → (inr (tc100_0)) → (((z23) = (0) ∧ (tc100_0) = (0)) ∨ ((z23) ≠ (0) ∧ (tc100_0) = (4))) → Ew 228 (d + 4) 100 ls [I (tc100_0)] σ c_4 s_4 Q := by
             as_aux_lemma =>
              intro tc100_0 ls σ F_c100 A_c100  lc100_0 lc100_3 lc100_4 lc100_5 lc100_6 H O hS_c100 hA_c100     jc100_0 jc100_1
              have cF_c100 : SF oz_D5clsl_7 F F_c100 := SF_trans (cF18) hS_c100 (any_sub (by decide +kernel))
              have mF_c100 := SFm_of cF_c100 oz_D5cls_26
              have cA_c100 : SA oz_D5clsl_5 A A_c100 := SA_trans (cA18) hA_c100 (any_subA (by decide +kernel))
              have mA_c100 := SAm_of cA_c100 oz_D5cls_16
              refine Ew_of (pcₚ := 102) (fun _ => x_istore rfl) ?_
              refine Ew_of (pcₚ := 103) (fun _ => x_aload_n rfl (rk_o (lc100_0) rfl rfl)) ?_
              refine v_g H (o := 0) (v := I (u0_5)) rfl rfl rfl rfl rfl (congrArg (fun z : Int => I z) (((mF_c100 0 5 rfl).trans (eu0_5)) : F_c100 0 5 = u0_5)) ?_
              refine Ew_of (pcₚ := 108) (fun _ => x_iload rfl (rk_o (lc100_6) rfl rfl)) ?_
              refine w_isub rfl ?_
              refine Ew_of (pcₚ := 111) (fun _ => x_iload rfl (rk_o (lc100_5) rfl rfl)) ?_
              refine Ew_of (pcₚ := 113) (fun _ => x_iload rfl rk_s) ?_
              refine w_iadd rfl ?_
              refine w_icmpge (t := 127) rfl rfl (show inr ((u0_5 - (x4_2 + 4))) from q_2972 b17 h1 h2 j4_4) (show inr ((z19 + tc100_0)) by omega) (fun b24 => ?_) (fun b24 => ?_)
              · have hc174 : ∀ (ls : rO) (σ : rS) (F_c174 : hF) (A_c174 : hA) , rlook ls 0 = some (.ref (D_4 0)) → rlook ls 3 = some (I (x4_3)) → rlook ls 4 = some (I (z18)) → rlook ls 5 = some (I (z19)) → rlook ls 6 = some (I ((x4_2 + 4))) → rlook ls 7 = some (I (tc100_0)) → HW V228 σ D_4 N_4 F_c174 A_c174 → OUT (V228).length D N σE c s D_4 N_4 σ c_4 s_4 → SF [] F_c100 F_c174 → SA [] A_c100 A_c174 → Ew 228 (d + 4) 174 ls [] σ c_4 s_4 Q := by
                 as_aux_lemma =>
                  intro  ls σ F_c174 A_c174  lc174_0 lc174_3 lc174_4 lc174_5 lc174_6 lc174_7 H O hS_c174 hA_c174     
                  have cF_c174 : SF oz_D5clsl_7 F F_c174 := SF_trans (cF_c100) hS_c174 (any_sub (by decide +kernel))
                  have mF_c174 := SFm_of cF_c174 oz_D5cls_26
                  have cA_c174 : SA oz_D5clsl_5 A A_c174 := SA_trans (cA_c100) hA_c174 (any_subA (by decide +kernel))
                  have mA_c174 := SAm_of cA_c174 oz_D5cls_16
                  refine Ew_of (pcₚ := 175) (fun _ => x_aload_n rfl lc174_0) ?_
                  refine v_g H (o := 0) (v := I (u0_7)) rfl rfl rfl rfl rfl (congrArg (fun z : Int => I z) (((mF_c174 0 7 rfl).trans (eu0_7)) : F_c174 0 7 = u0_7)) ?_
                  refine Ew_of (pcₚ := 179) (fun _ => x_aload_n rfl lc174_0) ?_
                  refine v_g H (o := 0) (v := .ref (D_4 2)) rfl rfl rfl rfl rfl (vrf ((mF_c174 0 6 rfl).trans ((pf2).trans (congrArg (fun q : Nat => (q : Int)) (mD_4 2 rfl).symm)))) ?_
                  refine v_g H (o := 2) (v := I (y4_2_1)) rfl rfl rfl rfl rfl (congrArg (fun z : Int => I z) (((((hS_c174 2 1 rfl).trans (hS_c100 2 1 rfl)).trans ((show F18 2 1 = F_4 2 1 from (eF18 2 1)))).trans (ey4_2_1)) : F_c174 2 1 = y4_2_1)) ?_
                  refine Ew_of (pcₚ := 186) (fun _ => x_aload_n rfl lc174_0) ?_
                  refine v_g H (o := 0) (v := I (u0_9)) rfl rfl rfl rfl rfl (congrArg (fun z : Int => I z) (((mF_c174 0 9 rfl).trans (eu0_9)) : F_c174 0 9 = u0_9)) ?_
                  refine w_iadd rfl ?_
                  refine v_min rfl rfl (show inr (u0_7) from q_2973 h5) (show inr ((y4_2_1 + u0_9)) by omega) (fun z25 gz25 => ?_)
                  refine Ew_of (pcₚ := 195) (fun _ => x_istore rfl) ?_
                  refine Ew_of (pcₚ := 196) (fun _ => x_aload_n rfl (rk_o (lc174_0) rfl rfl)) ?_
                  refine v_g H (o := 0) (v := I (F 0 8)) rfl rfl rfl rfl rfl (congrArg (fun z : Int => I z) ((mF_c174 0 8 rfl) : F_c174 0 8 = F 0 8)) ?_
                  refine Ew_of (pcₚ := 201) (fun _ => x_bipush (z := 32) rfl (by decide)) ?_
                  refine w_iand rfl (show inr (F 0 8) from q_22 r22) (show inr (32) from q_417) (fun z26 gz26 gaz26 gbz26 => ?_)
                  have hc219 : ∀ (tc219_0 : Int), ∀ (ls : rO) (σ : rS) (F_c219 : hF) (A_c219 : hA) , rlook ls 0 = some (.ref (D_4 0)) → rlook ls 3 = some (I (x4_3)) → rlook ls 4 = some (I (z18)) → rlook ls 5 = some (I (z19)) → rlook ls 6 = some (I ((x4_2 + 4))) → rlook ls 7 = some (I (tc100_0)) → rlook ls 8 = some (I (z25)) → HW V228 σ D_4 N_4 F_c219 A_c219 → OUT (V228).length D N σE c s D_4 N_4 σ c_4 s_4 → SF [] F_c174 F_c219 → SA [] A_c174 A_c219 → (inr (tc219_0)) → (((z26) = (0) ∧ (tc219_0) = (u0_10)) ∨ ((z26) ≠ (0) ∧ (tc219_0) = (y4_2_1))) → Ew 228 (d + 4) 219 ls [I (tc219_0)] σ c_4 s_4 Q := by
                   as_aux_lemma =>
                    intro tc219_0 ls σ F_c219 A_c219  lc219_0 lc219_3 lc219_4 lc219_5 lc219_6 lc219_7 lc219_8 H O hS_c219 hA_c219     jc219_0 jc219_1
                    have cF_c219 : SF oz_D5clsl_7 F F_c219 := SF_trans (cF_c174) hS_c219 (any_sub (by decide +kernel))
                    have mF_c219 := SFm_of cF_c219 oz_D5cls_26
                    have cA_c219 : SA oz_D5clsl_5 A A_c219 := SA_trans (cA_c174) hA_c219 (any_subA (by decide +kernel))
                    have mA_c219 := SAm_of cA_c219 oz_D5cls_16
                    refine Ew_of (pcₚ := 221) (fun _ => x_istore rfl) ?_
                    have hc254 : ∀ (tc254_0 : Int), ∀ (ls : rO) (σ : rS) (D_c254 N_c254 : Nat → Nat) (c_c254 s_c254 : Nat) (F_c254 : hF) (A_c254 : hA) , rlook ls 0 = some (.ref (D_c254 0)) → rlook ls 3 = some (I (x4_3)) → rlook ls 5 = some (I (z19)) → rlook ls 6 = some (I ((x4_2 + 4))) → rlook ls 7 = some (I (tc100_0)) → HW V228 σ D_c254 N_c254 F_c254 A_c254 → OUT (V228).length D N σE c s D_c254 N_c254 σ c_c254 s_c254 → SD [3] D_4 D_c254 → SD [3] N_4 N_c254 → SF [(0, 11), (0, 12), (2, 0), (2, 1), (2, 2)] F_c219 F_c254 → SA [3] A_c219 A_c254 → F_c254 2 0 = (D_c254 3 : Int) → ∀ mc254_3 : Int, (N_c254 3 : Int) = mc254_3 → ∀ yc254_2_1 : Int, F_c254 2 1 = yc254_2_1 → (inr (tc254_0)) → (0 ≤ (tc254_0) ∧ (tc254_0) ≤ 3) → (0 ≤ (yc254_2_1) ∧ (yc254_2_1) ≤ (mc254_3) ∧ (mc254_3) ≤ 65536) → ((u2_1) ≤ (yc254_2_1) ∧ (yc254_2_1) ≤ (u0_7)) → Ew 228 (d + 4) 254 ls [I (tc254_0)] σ c_c254 s_c254 Q := by
                     as_aux_lemma =>
                      intro tc254_0 ls σ D_c254 N_c254 c_c254 s_c254 F_c254 A_c254  lc254_0 lc254_3 lc254_5 lc254_6 lc254_7 H O hD_c254 hN_c254 hS_c254 hA_c254 pmc254_3 mc254_3 emc254_3 yc254_2_1 eyc254_2_1  jc254_0 jc254_1 jc254_2 jc254_3
                      have cF_c254 : SF oz_D5clsl_7 F F_c254 := SF_trans (cF_c219) hS_c254 (any_sub (by decide +kernel))
                      have mF_c254 := SFm_of cF_c254 oz_D5cls_26
                      have cA_c254 : SA oz_D5clsl_5 A A_c254 := SA_trans (cA_c219) hA_c254 (any_subA (by decide +kernel))
                      have mA_c254 := SAm_of cA_c254 oz_D5cls_16
                      have cD_c254 : SD oz_D5clsl_5 D D_c254 := SD_trans (cD_4) hD_c254 (any_subA (by decide +kernel))
                      have mD_c254 := SDm_of cD_c254 oz_D5cls_16
                      have cN_c254 : SD oz_D5clsl_5 N N_c254 := SD_trans (cN_4) hN_c254 (any_subA (by decide +kernel))
                      have mN_c254 := SDm_of cN_c254 oz_D5cls_16
                      have r27 : (0 : Int) ≤ mc254_3 ∧ mc254_3 ≤ 1000000 := nleE (H.nle 3 (ltn len_V228_oz_D5cls rfl)) (show (N_c254 3 : Int) = mc254_3 from emc254_3)
                      have r28 : (-2147483648 : Int) ≤ yc254_2_1 ∧ yc254_2_1 ≤ 2147483647 := rngE (show (-2147483648 : Int) ≤ F_c254 2 1 ∧ F_c254 2 1 ≤ 2147483647 from H.krg 2 1 (ltn len_V228_oz_D5cls rfl)) (show F_c254 2 1 = yc254_2_1 from (eyc254_2_1))
                      refine Ew_of (pcₚ := 256) (fun _ => x_istore rfl) ?_
                      refine Ew_of (pcₚ := 258) (fun _ => x_iload rfl rk_s) ?_
                      refine w_ifeq (t := 275) rfl rfl (show inr (tc254_0) from jc254_0) (fun b29 => ?_) (fun b29 => ?_)
                      · refine Ew_of (pcₚ := 277) (fun _ => x_iload rfl (rk_o (lc254_6) rfl rfl)) ?_
                        refine Ew_of (pcₚ := 279) (fun _ => x_iload rfl (rk_o (lc254_5) rfl rfl)) ?_
                        refine w_iadd rfl ?_
                        refine Ew_of (pcₚ := 282) (fun _ => x_iload rfl (rk_o (lc254_7) rfl rfl)) ?_
                        refine w_iadd rfl ?_
                        refine Ew_of (pcₚ := 284) (fun _ => x_istore_n rfl) ?_
                        refine Ew_of (pcₚ := 287) (fun _ => x_iinc (len := 3) rfl (rk_o (rk_o (lc254_3) rfl rfl) rfl rfl)) ?_
                        refine Ew_of (pcₚ := 4) (fun _ => x_goto rfl rfl) ?_
                        exact ih4 _ (msE hm4 q_672 (q_673 b13)) _ _ _ _ _ _ _ _ ((((x4_2 + 4) + z19) + tc100_0)) ((x4_3 + 1)) (rk_o (rk_o (rk_o (lc254_0) rfl rfl) rfl rfl) rfl rfl) (rk_o (rk_s) rfl rfl) (rk_s) H O (SD_trans (hD_4) hD_c254 (any_subA (by decide +kernel))) (SD_trans (hN_4) hN_c254 (any_subA (by decide +kernel))) (SF_trans (SF_trans (SF_trans (SF_trans (SF_trans (hS_4) (SF_gluc (ι := oz_D5clsl_2) oz_D5cls_8 hS18 eF18 (by decide +kernel)) (any_sub (lₚ := []) (by decide +kernel))) hS_c100 (any_sub (by decide +kernel))) hS_c174 (any_sub (by decide +kernel))) hS_c219 (any_sub (by decide +kernel))) hS_c254 (any_sub (by decide +kernel))) (SA_trans (SA_trans (SA_trans (SA_trans (SA_trans (hA_4) (SA_gluc (ι := oz_D5clsl_2) oz_D5cls_8 hA18 eA18 (by decide +kernel)) (any_subA (lₚ := []) (by decide +kernel))) hA_c100 (any_subA (by decide +kernel))) hA_c174 (any_subA (by decide +kernel))) hA_c219 (any_subA (by decide +kernel))) hA_c254 (any_subA (by decide +kernel))) (pmc254_3) (mc254_3) (emc254_3) (yc254_2_1) ((eyc254_2_1))  (show inr ((((x4_2 + 4) + z19) + tc100_0)) from q_2975 b24 gz19 h1 h2 j4_4 jc100_1) (show inr ((x4_3 + 1)) from q_2974 b13 h1 j4_1) (show (a1) ≤ ((x4_3 + 1)) from q_105 j4_2) (show ((x4_3 + 1)) ≤ (a1) ∨ ((x4_3 + 1)) ≤ (((u0_5) + 1)) from q_2828 b13) (show (a1) ≤ ((((x4_2 + 4) + z19) + tc100_0)) ∧ ((((x4_2 + 4) + z19) + tc100_0)) ≤ (u0_5) by omega) (show 0 ≤ (yc254_2_1) ∧ (yc254_2_1) ≤ (mc254_3) ∧ (mc254_3) ≤ 65536 from jc254_2) (show (u2_1) ≤ (yc254_2_1) ∧ (yc254_2_1) ≤ (u0_7) from jc254_3) rfl
                      · refine Ew_of (pcₚ := 263) (fun _ => x_iload rfl rk_s) ?_
                        refine Ew_of (pcₚ := 264) (fun _ => x_iconst rfl) ?_
                        refine w_icmpne (t := 272) rfl rfl (show inr (tc254_0) from jc254_0) (show inr (1) from q_23) (fun b30 => ?_) (fun b30 => ?_)
                        · refine Ew_of (pcₚ := 274) (fun _ => x_iload rfl rk_s) ?_
                          have r31 : (-2147483648 : Int) ≤ F_c254 0 12 ∧ F_c254 0 12 ≤ 2147483647 := H.krg 0 12 (ltn len_V228_oz_D5cls rfl)
                          exact w_ireturn rfl (k (tc254_0) _ _ _ _ _ _ _ H O (cD_c254) (cN_c254) (cF_c254) (cA_c254) (pmc254_3) (mc254_3) (emc254_3) (F_c254 0 12) (rfl) (yc254_2_1) ((eyc254_2_1)) (show inr (tc254_0) from jc254_0) (show 0 ≤ (tc254_0) ∧ (tc254_0) ≤ 9 from q_2976 jc254_1) (show 0 ≤ (yc254_2_1) ∧ (yc254_2_1) ≤ (mc254_3) ∧ (mc254_3) ≤ 65536 from jc254_2) (show (u2_1) ≤ (yc254_2_1) ∧ (yc254_2_1) ≤ (u0_7) from jc254_3) (show (tc254_0) = 0 → a1 + 4 ≤ (F_c254 0 12) ∧ (F_c254 0 12) ≤ (u0_5) by omega))
                        · refine Ew_of (pcₚ := 269) (fun _ => x_bipush (z := 9) rfl (by decide)) ?_
                          refine Ew_of (pcₚ := 274) (fun _ => x_goto rfl rfl) ?_
                          have r32 : (-2147483648 : Int) ≤ F_c254 0 12 ∧ F_c254 0 12 ≤ 2147483647 := H.krg 0 12 (ltn len_V228_oz_D5cls rfl)
                          exact w_ireturn rfl (k (9) _ _ _ _ _ _ _ H O (cD_c254) (cN_c254) (cF_c254) (cA_c254) (pmc254_3) (mc254_3) (emc254_3) (F_c254 0 12) (rfl) (yc254_2_1) ((eyc254_2_1)) (show inr (9) from q_19) (show 0 ≤ (9) ∧ (9) ≤ 9 by first | exact q_2978 | omega) (show 0 ≤ (yc254_2_1) ∧ (yc254_2_1) ≤ (mc254_3) ∧ (mc254_3) ≤ 65536 from jc254_2) (show (u2_1) ≤ (yc254_2_1) ∧ (yc254_2_1) ≤ (u0_7) from jc254_3) (show (9) = 0 → a1 + 4 ≤ (F_c254 0 12) ∧ (F_c254 0 12) ≤ (u0_5) by first | exact q_2977 h0 h1 r32 | omega))
                    refine Ew_of (pcₚ := 223) (fun _ => x_iload rfl (rk_o (lc219_4) rfl rfl)) ?_
                    refine w_ifge (t := 239) rfl rfl (show inr (z18) from pz18_0) (fun b33 => ?_) (fun b33 => ?_)
                    · refine Ew_of (pcₚ := 240) (fun _ => x_aload_n rfl (rk_o (lc219_0) rfl rfl)) ?_
                      refine Ew_of (pcₚ := 242) (fun _ => x_iload rfl (rk_o (lc219_6) rfl rfl)) ?_
                      refine Ew_of (pcₚ := 244) (fun _ => x_iload rfl (rk_o (lc219_6) rfl rfl)) ?_
                      refine Ew_of (pcₚ := 246) (fun _ => x_iload rfl (rk_o (lc219_5) rfl rfl)) ?_
                      refine w_iadd rfl ?_
                      refine Ew_of (pcₚ := 249) (fun _ => x_iload rfl rk_s) ?_
                      refine Ew_of (pcₚ := 251) (fun _ => x_iload rfl (rk_o (lc219_8) rfl rfl)) ?_
                      refine v_inv H (o := 0) rfl rfl rfl rfl rfl rfl (by rfl) (C224 (D := puc 176197141529088 D_4) (N := puc 176197141529088 N_4) (HW_subc H oz_D5cls_21 oz_D5cls_27) ((mF_c219 0 4 rfl).trans ((pf1).trans (congrArg (fun q : Nat => (q : Int)) (mD_4 1 rfl).symm))) ((mF_c219 0 6 rfl).trans ((pf2).trans (congrArg (fun q : Nat => (q : Int)) (mD_4 2 rfl).symm))) ((((((hS_c219 2 0 rfl).trans (hS_c174 2 0 rfl)).trans (hS_c100 2 0 rfl)).trans ((show F18 2 0 = F_4 2 0 from (eF18 2 0))))).trans (pm4_3)) ((mF_c219 0 1 rfl).trans ((pf4).trans (congrArg (fun q : Nat => (q : Int)) (mD_4 4 rfl).symm))) ((mF_c219 4 0 rfl).trans ((pf5).trans (congrArg (fun q : Nat => (q : Int)) (mD_4 5 rfl).symm))) (n1) ((congrArg (fun q : Nat => (q : Int)) (mN_4 1 rfl)).trans (en1)) (m4_3) (em4_3) (n5) ((congrArg (fun q : Nat => (q : Int)) (mN_4 5 rfl)).trans (en5)) (y4_2_1) ((((((hS_c219 2 1 rfl).trans (hS_c174 2 1 rfl)).trans (hS_c100 2 1 rfl)).trans ((show F18 2 1 = F_4 2 1 from (eF18 2 1)))).trans (ey4_2_1))) (u4_1) (((mF_c219 4 1 rfl).trans (eu4_1))) (show inr ((x4_2 + 4)) from q_2982 b17 h1 j4_0) (show inr (((x4_2 + 4) + z19)) by omega) (show inr (tc219_0) from jc219_0) (show inr (z25) from q_2981 gz25 h5 h7 j4_5) (show 0 ≤ ((x4_2 + 4)) ∧ ((x4_2 + 4)) ≤ (((x4_2 + 4) + z19)) ∧ (((x4_2 + 4) + z19)) ≤ (n1) ∧ (n1) ≤ 65536 by omega) (show 0 ≤ (y4_2_1) ∧ (y4_2_1) ≤ (m4_3) ∧ (m4_3) ≤ 65536 from j4_5) (show 0 ≤ (u4_1) ∧ (u4_1) ≤ (n5) ∧ (n5) ≤ 65536 from h4) (show 0 ≤ (tc219_0) ∧ (tc219_0) ≤ (y4_2_1) from q_2980 h6 j4_5 j4_6 jc219_1) (show 0 ≤ (z25) ∧ (z25) ≤ 65536 from q_2979 gz25 h5 h7 j4_5) (fun z34 σ34 D34ₚ N34ₚ F34ₚ A34ₚ c34 s34 Hₚ Oₚ hD34 hN34 hS34 hA34 pm34_3 m34_3 em34_3 y34_2_1 ey34_2_1 pz34_0 pz34_1 pz34_2 pz34_3 pz34_4 => ⟨rfl, ?_⟩))
                      refine v_backMc (c := c_4) (s := s_4) H oz_D5cls_21 oz_D5cls_27 Hₚ Oₚ hD34 oz_D5cls_22 (fun D34 N34 F34 A34 H Oₚ eD34 eN34 eF34 eA34 => ?_)
                      have O := OUT_trans O Oₚ
                      -- Tokens.unpackBlock
                      have cF34 : SF oz_D5clsl_7 F F34 := SF_trans (cF_c219) (SF_gluc (ι := oz_D5clsl_8) oz_D5cls_27 hS34 eF34 (by decide +kernel)) (any_sub (lₚ := [(0, 11), (0, 12), (2, 0), (2, 1), (2, 2)]) (by decide +kernel))
                      have mF34 := SFm_of cF34 oz_D5cls_26
                      have cA34 : SA oz_D5clsl_5 A A34 := SA_trans (cA_c219) (SA_gluc (ι := oz_D5clsl_8) oz_D5cls_27 hA34 eA34 (by decide +kernel)) (any_subA (lₚ := [3]) (by decide +kernel))
                      have mA34 := SAm_of cA34 oz_D5cls_16
                      have cD34 : SD oz_D5clsl_5 D D34 := SD_trans (cD_4) (SD_gluc (ι := oz_D5clsl_8) oz_D5cls_27 hD34 eD34 (by decide +kernel)) (any_subA (lₚ := [3]) (by decide +kernel))
                      have mD34 := SDm_of cD34 oz_D5cls_16
                      have cN34 : SD oz_D5clsl_5 N N34 := SD_trans (cN_4) (SD_gluc (ι := oz_D5clsl_8) oz_D5cls_27 hN34 eN34 (by decide +kernel)) (any_subA (lₚ := [3]) (by decide +kernel))
                      have mN34 := SDm_of cN34 oz_D5cls_16
                      have pf34_2_0 : F34 2 0 = (D34 3 : Int) := (eF34 2 0).trans (pm34_3.trans (congrArg (fun q : Nat => (q : Int)) (eD34 3).symm))
                      have r35 : (0 : Int) ≤ m34_3 ∧ m34_3 ≤ 1000000 := nleE (H.nle 3 (ltn len_V228_oz_D5cls rfl)) (show (N34 3 : Int) = m34_3 from (congrArg (fun q : Nat => (q : Int)) (eN34 3)).trans em34_3)
                      have r36 : (-2147483648 : Int) ≤ y34_2_1 ∧ y34_2_1 ≤ 2147483647 := rngE (show (-2147483648 : Int) ≤ F34 2 1 ∧ F34 2 1 ≤ 2147483647 from H.krg 2 1 (ltn len_V228_oz_D5cls rfl)) (show F34 2 1 = y34_2_1 from ((eF34 2 1).trans ey34_2_1))
                      exact hc254 (z34) _ _ _ _ _ _ _ _  ((rk_o (lc219_0) rfl rfl).trans (congrArg (fun q : Nat => some (Value.ref q)) (((show D34 0 = D_4 0 from (eD34 0).trans (hD34 0 rfl)))).symm)) (rk_o (lc219_3) rfl rfl) (rk_o (lc219_5) rfl rfl) (rk_o (lc219_6) rfl rfl) (rk_o (lc219_7) rfl rfl) H O (SD_trans (SD_refl) (SD_gluc (ι := oz_D5clsl_8) oz_D5cls_27 hD34 eD34 (by decide +kernel)) (any_subA (lₚ := [3]) (by decide +kernel))) (SD_trans (SD_refl) (SD_gluc (ι := oz_D5clsl_8) oz_D5cls_27 hN34 eN34 (by decide +kernel)) (any_subA (lₚ := [3]) (by decide +kernel))) (SF_trans (SF_refl) (SF_gluc (ι := oz_D5clsl_8) oz_D5cls_27 hS34 eF34 (by decide +kernel)) (any_sub (lₚ := [(0, 11), (0, 12), (2, 0), (2, 1), (2, 2)]) (by decide +kernel))) (SA_trans (SA_refl) (SA_gluc (ι := oz_D5clsl_8) oz_D5cls_27 hA34 eA34 (by decide +kernel)) (any_subA (lₚ := [3]) (by decide +kernel))) (pf34_2_0) (m34_3) ((congrArg (fun q : Nat => (q : Int)) (eN34 3)).trans em34_3) (y34_2_1) (((eF34 2 1).trans ey34_2_1))  (show inr (z34) from pz34_0) (show 0 ≤ (z34) ∧ (z34) ≤ 3 from pz34_1) (show 0 ≤ (y34_2_1) ∧ (y34_2_1) ≤ (m34_3) ∧ (m34_3) ≤ 65536 from pz34_2) (show (u2_1) ≤ (y34_2_1) ∧ (y34_2_1) ≤ (u0_7) from q_2983 gz25 h5 j4_6 pz34_2 pz34_3 pz34_4)
                    · refine Ew_of (pcₚ := 227) (fun _ => x_aload_n rfl (rk_o (lc219_0) rfl rfl)) ?_
                      refine Ew_of (pcₚ := 229) (fun _ => x_iload rfl (rk_o (lc219_6) rfl rfl)) ?_
                      refine Ew_of (pcₚ := 231) (fun _ => x_iload rfl (rk_o (lc219_5) rfl rfl)) ?_
                      refine Ew_of (pcₚ := 233) (fun _ => x_iload rfl (rk_o (lc219_8) rfl rfl)) ?_
                      refine v_inv H (o := 0) rfl rfl rfl rfl rfl rfl (by rfl) (C229 (D := puc 403177984 D_4) (N := puc 403177984 N_4) (HW_subc H oz_D5cls_23 oz_D5cls_28) ((mF_c219 0 4 rfl).trans ((pf1).trans (congrArg (fun q : Nat => (q : Int)) (mD_4 1 rfl).symm))) ((mF_c219 0 6 rfl).trans ((pf2).trans (congrArg (fun q : Nat => (q : Int)) (mD_4 2 rfl).symm))) ((((((hS_c219 2 0 rfl).trans (hS_c174 2 0 rfl)).trans (hS_c100 2 0 rfl)).trans ((show F18 2 0 = F_4 2 0 from (eF18 2 0))))).trans (pm4_3)) (n1) ((congrArg (fun q : Nat => (q : Int)) (mN_4 1 rfl)).trans (en1)) (m4_3) (em4_3) (y4_2_1) ((((((hS_c219 2 1 rfl).trans (hS_c174 2 1 rfl)).trans (hS_c100 2 1 rfl)).trans ((show F18 2 1 = F_4 2 1 from (eF18 2 1)))).trans (ey4_2_1))) (show inr ((x4_2 + 4)) from q_2982 b17 h1 j4_0) (show inr (z19) from gz19) (show inr (z25) from q_2981 gz25 h5 h7 j4_5) (show 0 ≤ ((x4_2 + 4)) ∧ 0 ≤ (z19) ∧ ((x4_2 + 4)) + (z19) ≤ (n1) ∧ (n1) ≤ 65536 by omega) (show 0 ≤ (y4_2_1) ∧ (y4_2_1) ≤ (m4_3) ∧ (m4_3) ≤ 65536 from j4_5) (show (y4_2_1) ≤ (z25) ∧ (z25) ≤ 65536 from q_2984 gz25 h5 h7 j4_6 jc219_1) (fun z37 σ37 D37ₚ N37ₚ F37ₚ A37ₚ c37 s37 Hₚ Oₚ hD37 hN37 hS37 hA37 pm37_3 m37_3 em37_3 y37_2_1 ey37_2_1 pz37_0 pz37_1 pz37_2 pz37_3 => ⟨rfl, ?_⟩))
                      refine v_backMc (c := c_4) (s := s_4) H oz_D5cls_23 oz_D5cls_28 Hₚ Oₚ hD37 oz_D5cls_24 (fun D37 N37 F37 A37 H Oₚ eD37 eN37 eF37 eA37 => ?_)
                      have O := OUT_trans O Oₚ
                      -- Tokens.unpackPlain
                      have cF37 : SF oz_D5clsl_7 F F37 := SF_trans (cF_c219) (SF_gluc (ι := oz_D5clsl_9) oz_D5cls_28 hS37 eF37 (by decide +kernel)) (any_sub (lₚ := [(0, 12), (2, 0), (2, 1), (2, 2)]) (by decide +kernel))
                      have mF37 := SFm_of cF37 oz_D5cls_26
                      have cA37 : SA oz_D5clsl_5 A A37 := SA_trans (cA_c219) (SA_gluc (ι := oz_D5clsl_9) oz_D5cls_28 hA37 eA37 (by decide +kernel)) (any_subA (lₚ := [3]) (by decide +kernel))
                      have mA37 := SAm_of cA37 oz_D5cls_16
                      have cD37 : SD oz_D5clsl_5 D D37 := SD_trans (cD_4) (SD_gluc (ι := oz_D5clsl_9) oz_D5cls_28 hD37 eD37 (by decide +kernel)) (any_subA (lₚ := [3]) (by decide +kernel))
                      have mD37 := SDm_of cD37 oz_D5cls_16
                      have cN37 : SD oz_D5clsl_5 N N37 := SD_trans (cN_4) (SD_gluc (ι := oz_D5clsl_9) oz_D5cls_28 hN37 eN37 (by decide +kernel)) (any_subA (lₚ := [3]) (by decide +kernel))
                      have mN37 := SDm_of cN37 oz_D5cls_16
                      have pf37_2_0 : F37 2 0 = (D37 3 : Int) := (eF37 2 0).trans (pm37_3.trans (congrArg (fun q : Nat => (q : Int)) (eD37 3).symm))
                      have r38 : (0 : Int) ≤ m37_3 ∧ m37_3 ≤ 1000000 := nleE (H.nle 3 (ltn len_V228_oz_D5cls rfl)) (show (N37 3 : Int) = m37_3 from (congrArg (fun q : Nat => (q : Int)) (eN37 3)).trans em37_3)
                      have r39 : (-2147483648 : Int) ≤ y37_2_1 ∧ y37_2_1 ≤ 2147483647 := rngE (show (-2147483648 : Int) ≤ F37 2 1 ∧ F37 2 1 ≤ 2147483647 from H.krg 2 1 (ltn len_V228_oz_D5cls rfl)) (show F37 2 1 = y37_2_1 from ((eF37 2 1).trans ey37_2_1))
                      refine Ew_of (pcₚ := 254) (fun _ => x_goto rfl rfl) ?_
                      exact hc254 (z37) _ _ _ _ _ _ _ _  ((rk_o (lc219_0) rfl rfl).trans (congrArg (fun q : Nat => some (Value.ref q)) (((show D37 0 = D_4 0 from (eD37 0).trans (hD37 0 rfl)))).symm)) (rk_o (lc219_3) rfl rfl) (rk_o (lc219_5) rfl rfl) (rk_o (lc219_6) rfl rfl) (rk_o (lc219_7) rfl rfl) H O (SD_trans (SD_refl) (SD_gluc (ι := oz_D5clsl_9) oz_D5cls_28 hD37 eD37 (by decide +kernel)) (any_subA (lₚ := [3]) (by decide +kernel))) (SD_trans (SD_refl) (SD_gluc (ι := oz_D5clsl_9) oz_D5cls_28 hN37 eN37 (by decide +kernel)) (any_subA (lₚ := [3]) (by decide +kernel))) (SF_trans (SF_refl) (SF_gluc (ι := oz_D5clsl_9) oz_D5cls_28 hS37 eF37 (by decide +kernel)) (any_sub (lₚ := [(0, 12), (2, 0), (2, 1), (2, 2)]) (by decide +kernel))) (SA_trans (SA_refl) (SA_gluc (ι := oz_D5clsl_9) oz_D5cls_28 hA37 eA37 (by decide +kernel)) (any_subA (lₚ := [3]) (by decide +kernel))) (pf37_2_0) (m37_3) ((congrArg (fun q : Nat => (q : Int)) (eN37 3)).trans em37_3) (y37_2_1) (((eF37 2 1).trans ey37_2_1))  (show inr (z37) from pz37_0) (show 0 ≤ (z37) ∧ (z37) ≤ 3 from pz37_1) (show 0 ≤ (y37_2_1) ∧ (y37_2_1) ≤ (m37_3) ∧ (m37_3) ≤ 65536 from pz37_2) (show (u2_1) ≤ (y37_2_1) ∧ (y37_2_1) ≤ (u0_7) from q_2985 gz25 h5 j4_6 pz37_2 pz37_3)
                  refine w_ifeq (t := 215) rfl rfl (show inr (z26) from gz26) (fun b40 => ?_) (fun b40 => ?_)
                  · refine Ew_of (pcₚ := 216) (fun _ => x_aload_n rfl (rk_o (lc174_0) rfl rfl)) ?_
                    refine v_g H (o := 0) (v := I (u0_10)) rfl rfl rfl rfl rfl (congrArg (fun z : Int => I z) (((mF_c174 0 10 rfl).trans (eu0_10)) : F_c174 0 10 = u0_10)) ?_
                    exact hc219 (u0_10) _ _ _ _  (rk_o (lc174_0) rfl rfl) (rk_o (lc174_3) rfl rfl) (rk_o (lc174_4) rfl rfl) (rk_o (lc174_5) rfl rfl) (rk_o (lc174_6) rfl rfl) (rk_o (lc174_7) rfl rfl) (rk_s) H O (SF_refl) (SA_refl)     (show inr (u0_10) from q_275 h6 r4) (show ((z26) = (0) ∧ (u0_10) = (u0_10)) ∨ ((z26) ≠ (0) ∧ (u0_10) = (y4_2_1)) from q_1179 b40)
                  · refine Ew_of (pcₚ := 206) (fun _ => x_aload_n rfl (rk_o (lc174_0) rfl rfl)) ?_
                    refine v_g H (o := 0) (v := .ref (D_4 2)) rfl rfl rfl rfl rfl (vrf ((mF_c174 0 6 rfl).trans ((pf2).trans (congrArg (fun q : Nat => (q : Int)) (mD_4 2 rfl).symm)))) ?_
                    refine v_g H (o := 2) (v := I (y4_2_1)) rfl rfl rfl rfl rfl (congrArg (fun z : Int => I z) (((((hS_c174 2 1 rfl).trans (hS_c100 2 1 rfl)).trans ((show F18 2 1 = F_4 2 1 from (eF18 2 1)))).trans (ey4_2_1)) : F_c174 2 1 = y4_2_1)) ?_
                    refine Ew_of (pcₚ := 219) (fun _ => x_goto rfl rfl) ?_
                    exact hc219 (y4_2_1) _ _ _ _  (rk_o (lc174_0) rfl rfl) (rk_o (lc174_3) rfl rfl) (rk_o (lc174_4) rfl rfl) (rk_o (lc174_5) rfl rfl) (rk_o (lc174_6) rfl rfl) (rk_o (lc174_7) rfl rfl) (rk_s) H O (SF_refl) (SA_refl)     (show inr (y4_2_1) from q_884 j4_5) (show ((z26) = (0) ∧ (y4_2_1) = (u0_10)) ∨ ((z26) ≠ (0) ∧ (y4_2_1) = (y4_2_1)) from q_1180 b40)
                refine Ew_of (pcₚ := 129) (fun _ => x_iload rfl rk_s) ?_
                refine w_ifle (t := 174) rfl rfl (show inr (tc100_0) from jc100_0) (fun b41 => ?_) (fun b41 => ?_)
                · exact hc174  _ _ _ _  (rk_o (lc100_0) rfl rfl) (rk_o (lc100_3) rfl rfl) (rk_o (lc100_4) rfl rfl) (rk_o (lc100_5) rfl rfl) (rk_o (lc100_6) rfl rfl) (rk_s) H O (SF_refl) (SA_refl)
                · refine Ew_of (pcₚ := 133) (fun _ => x_aload_n rfl (rk_o (lc100_0) rfl rfl)) ?_
                  refine v_g H (o := 0) (v := .ref (D_4 1)) rfl rfl rfl rfl rfl (vrf ((mF_c100 0 4 rfl).trans ((pf1).trans (congrArg (fun q : Nat => (q : Int)) (mD_4 1 rfl).symm)))) ?_
                  refine Ew_of (pcₚ := 138) (fun _ => x_iload rfl (rk_o (lc100_6) rfl rfl)) ?_
                  refine Ew_of (pcₚ := 140) (fun _ => x_iload rfl (rk_o (lc100_5) rfl rfl)) ?_
                  refine w_iadd rfl ?_
                  refine w_stat25 rfl rfl (by rfl) (C41_Br (D := puc 1 D_4) (N := puc 1 N_4) (HW_subc H oz_D5cls_20 oz_D5cls_8) (n1) ((congrArg (fun q : Nat => (q : Int)) (mN_4 1 rfl)).trans (en1)) (show inr (((x4_2 + 4) + z19)) from q_2986 b24 b41 gz19 h1 h2 j4_4) (show 0 ≤ (((x4_2 + 4) + z19)) ∧ (((x4_2 + 4) + z19)) + 4 ≤ (n1) by omega) (fun z42 σ42 F42ₚ A42ₚ Hₚ Oₚ hS42 hA42 pz42_0 => ⟨rfl, ?_⟩))
                  refine v_backc (c := c_4) (s := s_4) H oz_D5cls_20 oz_D5cls_8 Hₚ Oₚ (fun F42 A42 H Oₚ eF42 eA42 => ?_)
                  have O := OUT_trans O Oₚ
                  -- PackHouse.word
                  have cF42 : SF oz_D5clsl_7 F F42 := SF_trans (cF_c100) (SF_gluc (ι := oz_D5clsl_2) oz_D5cls_8 hS42 eF42 (by decide +kernel)) (any_sub (lₚ := []) (by decide +kernel))
                  have mF42 := SFm_of cF42 oz_D5cls_26
                  have cA42 : SA oz_D5clsl_5 A A42 := SA_trans (cA_c100) (SA_gluc (ι := oz_D5clsl_2) oz_D5cls_8 hA42 eA42 (by decide +kernel)) (any_subA (lₚ := []) (by decide +kernel))
                  have mA42 := SAm_of cA42 oz_D5cls_16
                  refine Ew_of (pcₚ := 145) (fun _ => x_aload_n rfl (rk_o (lc100_0) rfl rfl)) ?_
                  refine v_g H (o := 0) (v := .ref (D_4 1)) rfl rfl rfl rfl rfl (vrf ((mF42 0 4 rfl).trans ((pf1).trans (congrArg (fun q : Nat => (q : Int)) (mD_4 1 rfl).symm)))) ?_
                  refine Ew_of (pcₚ := 150) (fun _ => x_iload rfl (rk_o (lc100_6) rfl rfl)) ?_
                  refine Ew_of (pcₚ := 152) (fun _ => x_iload rfl (rk_o (lc100_6) rfl rfl)) ?_
                  refine Ew_of (pcₚ := 154) (fun _ => x_iload rfl (rk_o (lc100_5) rfl rfl)) ?_
                  refine w_iadd rfl ?_
                  refine Ew_of (pcₚ := 156) (fun _ => x_iconst rfl) ?_
                  refine w_stat25 rfl rfl (by rfl) (C49_Br (D := puc 1 D_4) (N := puc 1 N_4) (HW_subc H oz_D5cls_25 oz_D5cls_8) (n1) ((congrArg (fun q : Nat => (q : Int)) (mN_4 1 rfl)).trans (en1)) (show inr ((x4_2 + 4)) from q_2982 b17 h1 j4_0) (show inr (((x4_2 + 4) + z19)) from q_2986 b24 b41 gz19 h1 h2 j4_4) (show inr (0) from q_20) (show 0 ≤ ((x4_2 + 4)) ∧ ((x4_2 + 4)) ≤ (((x4_2 + 4) + z19)) ∧ (((x4_2 + 4) + z19)) ≤ (n1) by omega) (fun z43 σ43 F43ₚ A43ₚ Hₚ Oₚ hS43 hA43 pz43_0 => ⟨rfl, ?_⟩))
                  refine v_backc (c := c_4) (s := s_4) H oz_D5cls_25 oz_D5cls_8 Hₚ Oₚ (fun F43 A43 H Oₚ eF43 eA43 => ?_)
                  have O := OUT_trans O Oₚ
                  -- PackHouse.narrowSum
                  have cF43 : SF oz_D5clsl_7 F F43 := SF_trans (cF42) (SF_gluc (ι := oz_D5clsl_2) oz_D5cls_8 hS43 eF43 (by decide +kernel)) (any_sub (lₚ := []) (by decide +kernel))
                  have mF43 := SFm_of cF43 oz_D5cls_26
                  have cA43 : SA oz_D5clsl_5 A A43 := SA_trans (cA42) (SA_gluc (ι := oz_D5clsl_2) oz_D5cls_8 hA43 eA43 (by decide +kernel)) (any_subA (lₚ := []) (by decide +kernel))
                  have mA43 := SAm_of cA43 oz_D5cls_16
                  refine w_icmpeq (t := 174) rfl rfl (show inr (z42) from pz42_0) (show inr (z43) from pz43_0) (fun b44 => ?_) (fun b44 => ?_)
                  · exact hc174  _ _ _ _  (rk_o (lc100_0) rfl rfl) (rk_o (lc100_3) rfl rfl) (rk_o (lc100_4) rfl rfl) (rk_o (lc100_5) rfl rfl) (rk_o (lc100_6) rfl rfl) (rk_s) H O (SF_trans (SF_trans (SF_refl) (SF_gluc (ι := oz_D5clsl_2) oz_D5cls_8 hS42 eF42 (by decide +kernel)) (any_sub (lₚ := []) (by decide +kernel))) (SF_gluc (ι := oz_D5clsl_2) oz_D5cls_8 hS43 eF43 (by decide +kernel)) (any_sub (lₚ := []) (by decide +kernel))) (SA_trans (SA_trans (SA_refl) (SA_gluc (ι := oz_D5clsl_2) oz_D5cls_8 hA42 eA42 (by decide +kernel)) (any_subA (lₚ := []) (by decide +kernel))) (SA_gluc (ι := oz_D5clsl_2) oz_D5cls_8 hA43 eA43 (by decide +kernel)) (any_subA (lₚ := []) (by decide +kernel)))
                  · refine Ew_of (pcₚ := 163) (fun _ => x_aload_n rfl (rk_o (lc100_0) rfl rfl)) ?_
                    refine Ew_of (pcₚ := 165) (fun _ => x_bipush (z := 8) rfl (by decide)) ?_
                    refine Ew_of (pcₚ := 167) (fun _ => x_iload rfl (rk_o (lc100_6) rfl rfl)) ?_
                    refine Ew_of (pcₚ := 169) (fun _ => x_iload rfl (rk_o (lc100_5) rfl rfl)) ?_
                    refine w_iadd rfl ?_
                    have r45 : (-2147483648 : Int) ≤ F_4 0 12 ∧ F_4 0 12 ≤ 2147483647 := rngE (show (-2147483648 : Int) ≤ F43 0 12 ∧ F43 0 12 ≤ 2147483647 from H.krg 0 12 (ltn len_V228_oz_D5cls rfl)) (show F43 0 12 = F_4 0 12 from (((((show F43 0 12 = F42 0 12 from (eF43 0 12))).trans ((show F42 0 12 = F_c100 0 12 from (eF42 0 12)))).trans (hS_c100 0 12 rfl)).trans ((show F18 0 12 = F_4 0 12 from (eF18 0 12)))))
                    refine v_inv H (o := 0) rfl rfl rfl rfl rfl rfl (by rfl) (C221 (D := puc 0 D_4) (N := puc 0 N_4) (HW_subc H oz_D5cls_19 oz_D5cls_10) (F_4 0 12) ((((((show F43 0 12 = F42 0 12 from (eF43 0 12))).trans ((show F42 0 12 = F_c100 0 12 from (eF42 0 12)))).trans (hS_c100 0 12 rfl)).trans ((show F18 0 12 = F_4 0 12 from (eF18 0 12))))) (show inr (8) from q_96) (show inr (((x4_2 + 4) + z19)) from q_2986 b24 b41 gz19 h1 h2 j4_4) (fun z46 σ46 F46ₚ A46ₚ Hₚ Oₚ hS46 hA46 y46_0_12 ey46_0_12 pz46_0 pz46_1 pz46_2 => ⟨rfl, ?_⟩))
                    refine v_backc (c := c_4) (s := s_4) H oz_D5cls_19 oz_D5cls_10 Hₚ Oₚ (fun F46 A46 H Oₚ eF46 eA46 => ?_)
                    have O := OUT_trans O Oₚ
                    -- Tokens.fail
                    have cF46 : SF oz_D5clsl_7 F F46 := SF_trans (cF43) (SF_gluc (ι := oz_D5clsl_3) oz_D5cls_10 hS46 eF46 (by decide +kernel)) (any_sub (lₚ := [(0, 12)]) (by decide +kernel))
                    have mF46 := SFm_of cF46 oz_D5cls_26
                    have cA46 : SA oz_D5clsl_5 A A46 := SA_trans (cA43) (SA_gluc (ι := oz_D5clsl_3) oz_D5cls_10 hA46 eA46 (by decide +kernel)) (any_subA (lₚ := []) (by decide +kernel))
                    have mA46 := SAm_of cA46 oz_D5cls_16
                    have r47 : (-2147483648 : Int) ≤ y46_0_12 ∧ y46_0_12 ≤ 2147483647 := rngE (show (-2147483648 : Int) ≤ F46 0 12 ∧ F46 0 12 ≤ 2147483647 from H.krg 0 12 (ltn len_V228_oz_D5cls rfl)) (show F46 0 12 = y46_0_12 from ((eF46 0 12).trans ey46_0_12))
                    exact w_ireturn rfl (k (z46) _ _ _ _ _ _ _ H O (cD_4) (cN_4) (cF46) (cA46) ((((((((show F46 2 0 = F43 2 0 from (eF46 2 0))).trans ((show F43 2 0 = F42 2 0 from (eF43 2 0)))).trans ((show F42 2 0 = F_c100 2 0 from (eF42 2 0)))).trans (hS_c100 2 0 rfl)).trans ((show F18 2 0 = F_4 2 0 from (eF18 2 0))))).trans (pm4_3)) (m4_3) (em4_3) (y46_0_12) (((eF46 0 12).trans ey46_0_12)) (y4_2_1) ((((((((show F46 2 1 = F43 2 1 from (eF46 2 1))).trans ((show F43 2 1 = F42 2 1 from (eF43 2 1)))).trans ((show F42 2 1 = F_c100 2 1 from (eF42 2 1)))).trans (hS_c100 2 1 rfl)).trans ((show F18 2 1 = F_4 2 1 from (eF18 2 1)))).trans (ey4_2_1))) (show inr (z46) from pz46_0) (show 0 ≤ (z46) ∧ (z46) ≤ 9 from q_2988 pz46_1) (show 0 ≤ (y4_2_1) ∧ (y4_2_1) ≤ (m4_3) ∧ (m4_3) ≤ 65536 from j4_5) (show (u2_1) ≤ (y4_2_1) ∧ (y4_2_1) ≤ (u0_7) from j4_6) (show (z46) = 0 → a1 + 4 ≤ (y46_0_12) ∧ (y46_0_12) ≤ (u0_5) from q_2987 h0 h1 pz46_1 r47))
              · refine Ew_of (pcₚ := 118) (fun _ => x_aload_n rfl (rk_o (lc100_0) rfl rfl)) ?_
                refine Ew_of (pcₚ := 119) (fun _ => x_iconst rfl) ?_
                refine Ew_of (pcₚ := 120) (fun _ => x_aload_n rfl (rk_o (lc100_0) rfl rfl)) ?_
                refine v_g H (o := 0) (v := I (u0_5)) rfl rfl rfl rfl rfl (congrArg (fun z : Int => I z) (((mF_c100 0 5 rfl).trans (eu0_5)) : F_c100 0 5 = u0_5)) ?_
                have r48 : (-2147483648 : Int) ≤ F_4 0 12 ∧ F_4 0 12 ≤ 2147483647 := rngE (show (-2147483648 : Int) ≤ F_c100 0 12 ∧ F_c100 0 12 ≤ 2147483647 from H.krg 0 12 (ltn len_V228_oz_D5cls rfl)) (show F_c100 0 12 = F_4 0 12 from ((hS_c100 0 12 rfl).trans ((show F18 0 12 = F_4 0 12 from (eF18 0 12)))))
                refine v_inv H (o := 0) rfl rfl rfl rfl rfl rfl (by rfl) (C221 (D := puc 0 D_4) (N := puc 0 N_4) (HW_subc H oz_D5cls_19 oz_D5cls_10) (F_4 0 12) (((hS_c100 0 12 rfl).trans ((show F18 0 12 = F_4 0 12 from (eF18 0 12))))) (show inr (1) from q_23) (show inr (u0_5) from q_884 h1) (fun z49 σ49 F49ₚ A49ₚ Hₚ Oₚ hS49 hA49 y49_0_12 ey49_0_12 pz49_0 pz49_1 pz49_2 => ⟨rfl, ?_⟩))
                refine v_backc (c := c_4) (s := s_4) H oz_D5cls_19 oz_D5cls_10 Hₚ Oₚ (fun F49 A49 H Oₚ eF49 eA49 => ?_)
                have O := OUT_trans O Oₚ
                -- Tokens.fail
                have cF49 : SF oz_D5clsl_7 F F49 := SF_trans (cF_c100) (SF_gluc (ι := oz_D5clsl_3) oz_D5cls_10 hS49 eF49 (by decide +kernel)) (any_sub (lₚ := [(0, 12)]) (by decide +kernel))
                have mF49 := SFm_of cF49 oz_D5cls_26
                have cA49 : SA oz_D5clsl_5 A A49 := SA_trans (cA_c100) (SA_gluc (ι := oz_D5clsl_3) oz_D5cls_10 hA49 eA49 (by decide +kernel)) (any_subA (lₚ := []) (by decide +kernel))
                have mA49 := SAm_of cA49 oz_D5cls_16
                have r50 : (-2147483648 : Int) ≤ y49_0_12 ∧ y49_0_12 ≤ 2147483647 := rngE (show (-2147483648 : Int) ≤ F49 0 12 ∧ F49 0 12 ≤ 2147483647 from H.krg 0 12 (ltn len_V228_oz_D5cls rfl)) (show F49 0 12 = y49_0_12 from ((eF49 0 12).trans ey49_0_12))
                exact w_ireturn rfl (k (z49) _ _ _ _ _ _ _ H O (cD_4) (cN_4) (cF49) (cA49) ((((((show F49 2 0 = F_c100 2 0 from (eF49 2 0))).trans (hS_c100 2 0 rfl)).trans ((show F18 2 0 = F_4 2 0 from (eF18 2 0))))).trans (pm4_3)) (m4_3) (em4_3) (y49_0_12) (((eF49 0 12).trans ey49_0_12)) (y4_2_1) ((((((show F49 2 1 = F_c100 2 1 from (eF49 2 1))).trans (hS_c100 2 1 rfl)).trans ((show F18 2 1 = F_4 2 1 from (eF18 2 1)))).trans (ey4_2_1))) (show inr (z49) from pz49_0) (show 0 ≤ (z49) ∧ (z49) ≤ 9 from q_2967 pz49_1) (show 0 ≤ (y4_2_1) ∧ (y4_2_1) ≤ (m4_3) ∧ (m4_3) ≤ 65536 from j4_5) (show (u2_1) ≤ (y4_2_1) ∧ (y4_2_1) ≤ (u0_7) from j4_6) (show (z49) = 0 → a1 + 4 ≤ (y49_0_12) ∧ (y49_0_12) ≤ (u0_5) from q_2966 h2 pz49_1 pz49_2))
            refine w_ifeq (t := 99) rfl rfl (show inr (z23) from gz23) (fun b51 => ?_) (fun b51 => ?_)
            · refine Ew_of (pcₚ := 100) (fun _ => x_iconst rfl) ?_
              exact hc100 (0) _ _ _ _  (rk_o (rk_o (rk_o (l4_0) rfl rfl) rfl rfl) rfl rfl) (rk_o (rk_o (rk_o (l4_3) rfl rfl) rfl rfl) rfl rfl) (rk_o (rk_o (rk_s) rfl rfl) rfl rfl) (rk_o (rk_s) rfl rfl) (rk_s) H O (SF_refl) (SA_refl)     (show inr (0) from q_20) (show ((z23) = (0) ∧ (0) = (0)) ∨ ((z23) ≠ (0) ∧ (0) = (4)) from q_2468 b51)
            · refine Ew_of (pcₚ := 96) (fun _ => x_iconst rfl) ?_
              refine Ew_of (pcₚ := 100) (fun _ => x_goto rfl rfl) ?_
              exact hc100 (4) _ _ _ _  (rk_o (rk_o (rk_o (l4_0) rfl rfl) rfl rfl) rfl rfl) (rk_o (rk_o (rk_o (l4_3) rfl rfl) rfl rfl) rfl rfl) (rk_o (rk_o (rk_s) rfl rfl) rfl rfl) (rk_o (rk_s) rfl rfl) (rk_s) H O (SF_refl) (SA_refl)     (show inr (4) from q_2) (show ((z23) = (0) ∧ (4) = (0)) ∨ ((z23) ≠ (0) ∧ (4) = (4)) from q_2469 b51)
          · refine Ew_of (pcₚ := 73) (fun _ => x_aload_n rfl (rk_o (rk_o (l4_0) rfl rfl) rfl rfl)) ?_
            refine Ew_of (pcₚ := 75) (fun _ => x_bipush (z := 7) rfl (by decide)) ?_
            refine Ew_of (pcₚ := 76) (fun _ => x_iload_n rfl (rk_o (rk_o (l4_2) rfl rfl) rfl rfl)) ?_
            have r52 : (-2147483648 : Int) ≤ F_4 0 12 ∧ F_4 0 12 ≤ 2147483647 := rngE (show (-2147483648 : Int) ≤ F18 0 12 ∧ F18 0 12 ≤ 2147483647 from H.krg 0 12 (ltn len_V228_oz_D5cls rfl)) (show F18 0 12 = F_4 0 12 from ((show F18 0 12 = F_4 0 12 from (eF18 0 12))))
            refine v_inv H (o := 0) rfl rfl rfl rfl rfl rfl (by rfl) (C221 (D := puc 0 D_4) (N := puc 0 N_4) (HW_subc H oz_D5cls_19 oz_D5cls_10) (F_4 0 12) (((show F18 0 12 = F_4 0 12 from (eF18 0 12)))) (show inr (7) from q_355) (show inr (x4_2) from j4_0) (fun z53 σ53 F53ₚ A53ₚ Hₚ Oₚ hS53 hA53 y53_0_12 ey53_0_12 pz53_0 pz53_1 pz53_2 => ⟨rfl, ?_⟩))
            refine v_backc (c := c_4) (s := s_4) H oz_D5cls_19 oz_D5cls_10 Hₚ Oₚ (fun F53 A53 H Oₚ eF53 eA53 => ?_)
            have O := OUT_trans O Oₚ
            -- Tokens.fail
            have cF53 : SF oz_D5clsl_7 F F53 := SF_trans (cF18) (SF_gluc (ι := oz_D5clsl_3) oz_D5cls_10 hS53 eF53 (by decide +kernel)) (any_sub (lₚ := [(0, 12)]) (by decide +kernel))
            have mF53 := SFm_of cF53 oz_D5cls_26
            have cA53 : SA oz_D5clsl_5 A A53 := SA_trans (cA18) (SA_gluc (ι := oz_D5clsl_3) oz_D5cls_10 hA53 eA53 (by decide +kernel)) (any_subA (lₚ := []) (by decide +kernel))
            have mA53 := SAm_of cA53 oz_D5cls_16
            have r54 : (-2147483648 : Int) ≤ y53_0_12 ∧ y53_0_12 ≤ 2147483647 := rngE (show (-2147483648 : Int) ≤ F53 0 12 ∧ F53 0 12 ≤ 2147483647 from H.krg 0 12 (ltn len_V228_oz_D5cls rfl)) (show F53 0 12 = y53_0_12 from ((eF53 0 12).trans ey53_0_12))
            exact w_ireturn rfl (k (z53) _ _ _ _ _ _ _ H O (cD_4) (cN_4) (cF53) (cA53) (((((show F53 2 0 = F18 2 0 from (eF53 2 0))).trans ((show F18 2 0 = F_4 2 0 from (eF18 2 0))))).trans (pm4_3)) (m4_3) (em4_3) (y53_0_12) (((eF53 0 12).trans ey53_0_12)) (y4_2_1) (((((show F53 2 1 = F18 2 1 from (eF53 2 1))).trans ((show F18 2 1 = F_4 2 1 from (eF18 2 1)))).trans (ey4_2_1))) (show inr (z53) from pz53_0) (show 0 ≤ (z53) ∧ (z53) ≤ 9 from q_2990 pz53_1) (show 0 ≤ (y4_2_1) ∧ (y4_2_1) ≤ (m4_3) ∧ (m4_3) ≤ 65536 from j4_5) (show (u2_1) ≤ (y4_2_1) ∧ (y4_2_1) ≤ (u0_7) from j4_6) (show (z53) = 0 → a1 + 4 ≤ (y53_0_12) ∧ (y53_0_12) ≤ (u0_5) from q_2989 b17 j4_4 pz53_1 pz53_2))
        · refine Ew_of (pcₚ := 55) (fun _ => x_aload_n rfl (rk_o (rk_o (l4_0) rfl rfl) rfl rfl)) ?_
          refine Ew_of (pcₚ := 56) (fun _ => x_iconst rfl) ?_
          refine Ew_of (pcₚ := 57) (fun _ => x_iload_n rfl (rk_o (rk_o (l4_2) rfl rfl) rfl rfl)) ?_
          refine Ew_of (pcₚ := 58) (fun _ => x_iconst rfl) ?_
          refine w_iadd rfl ?_
          have r55 : (-2147483648 : Int) ≤ F_4 0 12 ∧ F_4 0 12 ≤ 2147483647 := rngE (show (-2147483648 : Int) ≤ F18 0 12 ∧ F18 0 12 ≤ 2147483647 from H.krg 0 12 (ltn len_V228_oz_D5cls rfl)) (show F18 0 12 = F_4 0 12 from ((show F18 0 12 = F_4 0 12 from (eF18 0 12))))
          refine v_inv H (o := 0) rfl rfl rfl rfl rfl rfl (by rfl) (C221 (D := puc 0 D_4) (N := puc 0 N_4) (HW_subc H oz_D5cls_19 oz_D5cls_10) (F_4 0 12) (((show F18 0 12 = F_4 0 12 from (eF18 0 12)))) (show inr (0) from q_20) (show inr ((x4_2 + 4)) from q_2982 b17 h1 j4_0) (fun z56 σ56 F56ₚ A56ₚ Hₚ Oₚ hS56 hA56 y56_0_12 ey56_0_12 pz56_0 pz56_1 pz56_2 => ⟨rfl, ?_⟩))
          refine v_backc (c := c_4) (s := s_4) H oz_D5cls_19 oz_D5cls_10 Hₚ Oₚ (fun F56 A56 H Oₚ eF56 eA56 => ?_)
          have O := OUT_trans O Oₚ
          -- Tokens.fail
          have cF56 : SF oz_D5clsl_7 F F56 := SF_trans (cF18) (SF_gluc (ι := oz_D5clsl_3) oz_D5cls_10 hS56 eF56 (by decide +kernel)) (any_sub (lₚ := [(0, 12)]) (by decide +kernel))
          have mF56 := SFm_of cF56 oz_D5cls_26
          have cA56 : SA oz_D5clsl_5 A A56 := SA_trans (cA18) (SA_gluc (ι := oz_D5clsl_3) oz_D5cls_10 hA56 eA56 (by decide +kernel)) (any_subA (lₚ := []) (by decide +kernel))
          have mA56 := SAm_of cA56 oz_D5cls_16
          have r57 : (-2147483648 : Int) ≤ y56_0_12 ∧ y56_0_12 ≤ 2147483647 := rngE (show (-2147483648 : Int) ≤ F56 0 12 ∧ F56 0 12 ≤ 2147483647 from H.krg 0 12 (ltn len_V228_oz_D5cls rfl)) (show F56 0 12 = y56_0_12 from ((eF56 0 12).trans ey56_0_12))
          exact w_ireturn rfl (k (z56) _ _ _ _ _ _ _ H O (cD_4) (cN_4) (cF56) (cA56) (((((show F56 2 0 = F18 2 0 from (eF56 2 0))).trans ((show F18 2 0 = F_4 2 0 from (eF18 2 0))))).trans (pm4_3)) (m4_3) (em4_3) (y56_0_12) (((eF56 0 12).trans ey56_0_12)) (y4_2_1) (((((show F56 2 1 = F18 2 1 from (eF56 2 1))).trans ((show F18 2 1 = F_4 2 1 from (eF18 2 1)))).trans (ey4_2_1))) (show inr (z56) from pz56_0) (show 0 ≤ (z56) ∧ (z56) ≤ 9 from q_2992 pz56_1) (show 0 ≤ (y4_2_1) ∧ (y4_2_1) ≤ (m4_3) ∧ (m4_3) ≤ 65536 from j4_5) (show (u2_1) ≤ (y4_2_1) ∧ (y4_2_1) ≤ (u0_7) from j4_6) (show (z56) = 0 → a1 + 4 ≤ (y56_0_12) ∧ (y56_0_12) ≤ (u0_5) from q_2991 b17 j4_4 pz56_2))
      · refine Ew_of (pcₚ := 23) (fun _ => x_aload_n rfl l4_0) ?_
        refine Ew_of (pcₚ := 24) (fun _ => x_iconst rfl) ?_
        refine Ew_of (pcₚ := 25) (fun _ => x_aload_n rfl l4_0) ?_
        refine v_g H (o := 0) (v := I (u0_5)) rfl rfl rfl rfl rfl (congrArg (fun z : Int => I z) (((mF_4 0 5 rfl).trans (eu0_5)) : F_4 0 5 = u0_5)) ?_
        have r58 : (-2147483648 : Int) ≤ F_4 0 12 ∧ F_4 0 12 ≤ 2147483647 := H.krg 0 12 (ltn len_V228_oz_D5cls rfl)
        refine v_inv H (o := 0) rfl rfl rfl rfl rfl rfl (by rfl) (C221 (D := puc 0 D_4) (N := puc 0 N_4) (HW_subc H oz_D5cls_19 oz_D5cls_10) (F_4 0 12) (rfl) (show inr (1) from q_23) (show inr (u0_5) from q_884 h1) (fun z59 σ59 F59ₚ A59ₚ Hₚ Oₚ hS59 hA59 y59_0_12 ey59_0_12 pz59_0 pz59_1 pz59_2 => ⟨rfl, ?_⟩))
        refine v_backc (c := c_4) (s := s_4) H oz_D5cls_19 oz_D5cls_10 Hₚ Oₚ (fun F59 A59 H Oₚ eF59 eA59 => ?_)
        have O := OUT_trans O Oₚ
        -- Tokens.fail
        have cF59 : SF oz_D5clsl_7 F F59 := SF_trans (cF_4) (SF_gluc (ι := oz_D5clsl_3) oz_D5cls_10 hS59 eF59 (by decide +kernel)) (any_sub (lₚ := [(0, 12)]) (by decide +kernel))
        have mF59 := SFm_of cF59 oz_D5cls_26
        have cA59 : SA oz_D5clsl_5 A A59 := SA_trans (cA_4) (SA_gluc (ι := oz_D5clsl_3) oz_D5cls_10 hA59 eA59 (by decide +kernel)) (any_subA (lₚ := []) (by decide +kernel))
        have mA59 := SAm_of cA59 oz_D5cls_16
        have r60 : (-2147483648 : Int) ≤ y59_0_12 ∧ y59_0_12 ≤ 2147483647 := rngE (show (-2147483648 : Int) ≤ F59 0 12 ∧ F59 0 12 ≤ 2147483647 from H.krg 0 12 (ltn len_V228_oz_D5cls rfl)) (show F59 0 12 = y59_0_12 from ((eF59 0 12).trans ey59_0_12))
        exact w_ireturn rfl (k (z59) _ _ _ _ _ _ _ H O (cD_4) (cN_4) (cF59) (cA59) ((((show F59 2 0 = F_4 2 0 from (eF59 2 0)))).trans (pm4_3)) (m4_3) (em4_3) (y59_0_12) (((eF59 0 12).trans ey59_0_12)) (y4_2_1) ((((show F59 2 1 = F_4 2 1 from (eF59 2 1))).trans (ey4_2_1))) (show inr (z59) from pz59_0) (show 0 ≤ (z59) ∧ (z59) ≤ 9 from q_2967 pz59_1) (show 0 ≤ (y4_2_1) ∧ (y4_2_1) ≤ (m4_3) ∧ (m4_3) ≤ 65536 from j4_5) (show (u2_1) ≤ (y4_2_1) ∧ (y4_2_1) ≤ (u0_7) from j4_6) (show (z59) = 0 → a1 + 4 ≤ (y59_0_12) ∧ (y59_0_12) ≤ (u0_5) from q_2966 h2 pz59_1 pz59_2))
abbrev V230 : vV := [(0, 11, [(4, 0), (4, 0), (4, 0), (4, 0), (4, 0), (0, 0), (4, 0), (0, 0), (0, 0), (0, 0), (0, 0), (0, 0), (0, 0)]), (1, 0, []), (0, 7, [(4, 0), (0, 0), (1, 0), (0, 0), (0, 0)]), (1, 0, [])]
theorem len_V230_oz_D5cls : (V230).length = 4 := by decide +kernel
theorem oz_D5cls_30 : vsub V230 V221 [0] = true := by decide +kernel
theorem oz_D5cls_31 : vsub V230 V42_Br [1] = true := by decide +kernel
theorem oz_D5cls_32 : vsub V230 V41_Br [1] = true := by decide +kernel
theorem oz_D5cls_33 : vsub V230 V49_Br [3] = true := by decide +kernel
def oz_D5clsl_10 : List (Nat × Nat) := [(0, 12)]
theorem oz_D5cls_34 : (oz_D5clsl_10).all (fun p => !tbz 4096 (Nat.add (Nat.mul 32 p.1) p.2)) = true := by decide +kernel
theorem oz_D5cls_35 : okc oz_D5clsl_5 3 = true := by decide +kernel
/-- Tokens.unpackEnd: this, this.in, this.result, this.result.bytes -/
theorem C230 {σE : rS} {D N : Nat → Nat} {F : hF} {A : hA} {d c s : Nat} {Q : wQ} (H : HW V230 σE D N F A) {a1 a2 : Int} (pf1 : F 0 4 = (D 1 : Int)) (pf2 : F 0 6 = (D 2 : Int)) (pf3 : F 2 0 = (D 3 : Int)) (n1 : Int) (en1 : (N 1 : Int) = n1) (n3 : Int) (en3 : (N 3 : Int) = n3) (u0_5 : Int) (eu0_5 : F 0 5 = u0_5) (u0_8 : Int) (eu0_8 : F 0 8 = u0_8) (u0_10 : Int) (eu0_10 : F 0 10 = u0_10) (u0_12 : Int) (eu0_12 : F 0 12 = u0_12) (u2_1 : Int) (eu2_1 : F 2 1 = u2_1) (h0 : inr (a1)) (h1 : inr (a2)) (h2 : 0 ≤ (u0_5) ∧ (u0_5) ≤ (n1) ∧ (n1) ≤ 65536) (h3 : 0 ≤ (a1) ∧ (a1) ≤ (u0_5)) (h4 : 0 ≤ (u2_1) ∧ (u2_1) ≤ (n3) ∧ (n3) ≤ 65536) (h5 : 0 ≤ (u0_10) ∧ (u0_10) ≤ (u2_1)) (h6 : 0 ≤ (a2)) (h7 : andI ((u0_8)) 8 = 0 ∨ (a2) + 8 ≤ (n1)) (k : ∀ (z : Int) (σ : rS) (Fₚ : hF) (Aₚ : hA), HW V230 σ D N Fₚ Aₚ → OUT (V230).length D N σE c s D N σ c s → SF [(0, 12)] F Fₚ → SA [] A Aₚ → ∀ y0_12 : Int, Fₚ 0 12 = y0_12 → (inr (z)) → (0 ≤ (z) ∧ (z) ≤ 11) → ((z) = 0 → (a1) ≤ (y0_12) ∧ (y0_12) ≤ (u0_5)) → Q (some (I z)) σ c s) : Ew 230 (d + 3) 0 (rargs 0 [.ref (D 0), I a1, I a2]) [] σE c s Q := by
  have O := OUT_refl (n := (V230).length) (D := D) (N := N) (σ := σE) (c := c) (s := s)
  have HE := H
  have r1 : (-2147483648 : Int) ≤ u0_5 ∧ u0_5 ≤ 2147483647 := rngE (show (-2147483648 : Int) ≤ F 0 5 ∧ F 0 5 ≤ 2147483647 from H.krg 0 5 (ltn len_V230_oz_D5cls rfl)) (show F 0 5 = u0_5 from (eu0_5))
  have r2 : (-2147483648 : Int) ≤ u0_8 ∧ u0_8 ≤ 2147483647 := rngE (show (-2147483648 : Int) ≤ F 0 8 ∧ F 0 8 ≤ 2147483647 from H.krg 0 8 (ltn len_V230_oz_D5cls rfl)) (show F 0 8 = u0_8 from (eu0_8))
  have r3 : (-2147483648 : Int) ≤ u0_10 ∧ u0_10 ≤ 2147483647 := rngE (show (-2147483648 : Int) ≤ F 0 10 ∧ F 0 10 ≤ 2147483647 from H.krg 0 10 (ltn len_V230_oz_D5cls rfl)) (show F 0 10 = u0_10 from (eu0_10))
  have r4 : (-2147483648 : Int) ≤ u0_12 ∧ u0_12 ≤ 2147483647 := rngE (show (-2147483648 : Int) ≤ F 0 12 ∧ F 0 12 ≤ 2147483647 from H.krg 0 12 (ltn len_V230_oz_D5cls rfl)) (show F 0 12 = u0_12 from (eu0_12))
  have r5 : (-2147483648 : Int) ≤ u2_1 ∧ u2_1 ≤ 2147483647 := rngE (show (-2147483648 : Int) ≤ F 2 1 ∧ F 2 1 ≤ 2147483647 from H.krg 2 1 (ltn len_V230_oz_D5cls rfl)) (show F 2 1 = u2_1 from (eu2_1))
  have r6 : (0 : Int) ≤ n1 ∧ n1 ≤ 1000000 := nleE (H.nle 1 (ltn len_V230_oz_D5cls rfl)) (show (N 1 : Int) = n1 from en1)
  have r7 : (0 : Int) ≤ n3 ∧ n3 ≤ 1000000 := nleE (H.nle 3 (ltn len_V230_oz_D5cls rfl)) (show (N 3 : Int) = n3 from en3)
  refine Ew_of (pcₚ := 1) (fun _ => x_iload_n rfl rfl) ?_
  refine Ew_of (pcₚ := 2) (fun _ => x_istore_n rfl) ?_
  have hc75 : ∀ (ls : rO) (σ : rS) (F_c75 : hF) (A_c75 : hA) (xc75_3 : Int), rlook ls 0 = some (.ref (D 0)) → rlook ls 2 = some (I (a2)) → rlook ls 3 = some (I (xc75_3)) → HW V230 σ D N F_c75 A_c75 → OUT (V230).length D N σE c s D N σ c s → SF [] F F_c75 → SA [] A A_c75 → (inr (xc75_3)) → ((xc75_3) = (a1) ∨ (xc75_3) = (a1) + 4 ∧ (xc75_3) ≤ (u0_5)) → Ew 230 (d + 3) 75 ls [] σ c s Q := by
   as_aux_lemma =>
    intro  ls σ F_c75 A_c75 xc75_3 lc75_0 lc75_2 lc75_3 H O hS_c75 hA_c75     jc75_0 jc75_1
    have cF_c75 : SF oz_D5clsl_10 F F_c75 := SF_trans (SF_refl) hS_c75 (any_sub (by decide +kernel))
    have mF_c75 := SFm_of cF_c75 oz_D5cls_34
    have cA_c75 : SA oz_D5clsl_1 A A_c75 := SA_trans (SA_refl) hA_c75 (any_subA (by decide +kernel))
    have mA_c75 := SAm_of cA_c75 oz_D5cls_7
    refine Ew_of (pcₚ := 76) (fun _ => x_aload_n rfl lc75_0) ?_
    refine v_g H (o := 0) (v := I (u0_8)) rfl rfl rfl rfl rfl (congrArg (fun z : Int => I z) (((mF_c75 0 8 rfl).trans (eu0_8)) : F_c75 0 8 = u0_8)) ?_
    refine Ew_of (pcₚ := 81) (fun _ => x_bipush (z := 8) rfl (by decide)) ?_
    refine w_iandE rfl (show inr (u0_8) from q_22 r2) (show inr (8) from q_96) (fun z8 gz8 gaz8 gbz8 gez8 => ?_)
    refine w_ifeq (t := 120) rfl rfl (show inr (z8) from gz8) (fun b9 => ?_) (fun b9 => ?_)
    · refine Ew_of (pcₚ := 121) (fun _ => x_aload_n rfl lc75_0) ?_
      refine Ew_of (pcₚ := 122) (fun _ => x_iconst rfl) ?_
      refine Ew_of (pcₚ := 123) (fun _ => x_iload_n rfl lc75_3) ?_
      refine v_inv H (o := 0) rfl rfl rfl rfl rfl rfl (by rfl) (C221 (D := puc 0 D) (N := puc 0 N) (HW_subc H oz_D5cls_30 oz_D5cls_10) (u0_12) (((hS_c75 0 12 rfl).trans (eu0_12))) (show inr (0) from q_20) (show inr (xc75_3) from jc75_0) (fun z10 σ10 F10ₚ A10ₚ Hₚ Oₚ hS10 hA10 y10_0_12 ey10_0_12 pz10_0 pz10_1 pz10_2 => ⟨rfl, ?_⟩))
      refine v_backc (c := c) (s := s) H oz_D5cls_30 oz_D5cls_10 Hₚ Oₚ (fun F10 A10 H Oₚ eF10 eA10 => ?_)
      have O := OUT_trans O Oₚ
      -- Tokens.fail
      have cF10 : SF oz_D5clsl_10 F F10 := SF_trans (cF_c75) (SF_gluc (ι := oz_D5clsl_3) oz_D5cls_10 hS10 eF10 (by decide +kernel)) (any_sub (lₚ := [(0, 12)]) (by decide +kernel))
      have mF10 := SFm_of cF10 oz_D5cls_34
      have cA10 : SA oz_D5clsl_1 A A10 := SA_trans (cA_c75) (SA_gluc (ι := oz_D5clsl_3) oz_D5cls_10 hA10 eA10 (by decide +kernel)) (any_subA (lₚ := []) (by decide +kernel))
      have mA10 := SAm_of cA10 oz_D5cls_7
      have r11 : (-2147483648 : Int) ≤ y10_0_12 ∧ y10_0_12 ≤ 2147483647 := rngE (show (-2147483648 : Int) ≤ F10 0 12 ∧ F10 0 12 ≤ 2147483647 from H.krg 0 12 (ltn len_V230_oz_D5cls rfl)) (show F10 0 12 = y10_0_12 from ((eF10 0 12).trans ey10_0_12))
      exact w_ireturn rfl (k (z10) _ _ _ H O (cF10) (cA10) (y10_0_12) (((eF10 0 12).trans ey10_0_12)) (show inr (z10) from pz10_0) (show 0 ≤ (z10) ∧ (z10) ≤ 11 from q_2994 pz10_1) (show (z10) = 0 → a1 ≤ (y10_0_12) ∧ (y10_0_12) ≤ (u0_5) from q_2993 h3 jc75_1 pz10_2))
    · refine Ew_of (pcₚ := 86) (fun _ => x_aload_n rfl lc75_0) ?_
      refine v_g H (o := 0) (v := .ref (D 1)) rfl rfl rfl rfl rfl (vrf ((mF_c75 0 4 rfl).trans (pf1))) ?_
      refine Ew_of (pcₚ := 90) (fun _ => x_iload_n rfl lc75_2) ?_
      refine Ew_of (pcₚ := 92) (fun _ => x_bipush (z := 8) rfl (by decide)) ?_
      refine w_stat25 rfl rfl (by rfl) (C42_Br (D := puc 1 D) (N := puc 1 N) (HW_subc H oz_D5cls_31 oz_D5cls_8) (n1) (en1) (show inr (a2) from h1) (show inr (8) from q_96) (show (8) ≤ 0 ∨ 0 ≤ (a2) ∧ (a2) + (8) ≤ (n1) by omega) (show 0 ≤ (8) from q_2585) (fun z12 σ12 F12ₚ A12ₚ Hₚ Oₚ hS12 hA12 pz12_0 pz12_1 => ⟨rfl, ?_⟩))
      refine v_backc (c := c) (s := s) H oz_D5cls_31 oz_D5cls_8 Hₚ Oₚ (fun F12 A12 H Oₚ eF12 eA12 => ?_)
      have O := OUT_trans O Oₚ
      -- PackHouse.number
      have cF12 : SF oz_D5clsl_10 F F12 := SF_trans (cF_c75) (SF_gluc (ι := oz_D5clsl_2) oz_D5cls_8 hS12 eF12 (by decide +kernel)) (any_sub (lₚ := []) (by decide +kernel))
      have mF12 := SFm_of cF12 oz_D5cls_34
      have cA12 : SA oz_D5clsl_1 A A12 := SA_trans (cA_c75) (SA_gluc (ι := oz_D5clsl_2) oz_D5cls_8 hA12 eA12 (by decide +kernel)) (any_subA (lₚ := []) (by decide +kernel))
      have mA12 := SAm_of cA12 oz_D5cls_7
      refine Ew_of (pcₚ := 96) (fun _ => x_aload_n rfl lc75_0) ?_
      refine v_g H (o := 0) (v := .ref (D 2)) rfl rfl rfl rfl rfl (vrf ((mF12 0 6 rfl).trans (pf2))) ?_
      refine v_g H (o := 2) (v := I (u2_1)) rfl rfl rfl rfl rfl (congrArg (fun z : Int => I z) (((mF12 2 1 rfl).trans (eu2_1)) : F12 2 1 = u2_1)) ?_
      refine Ew_of (pcₚ := 103) (fun _ => x_aload_n rfl lc75_0) ?_
      refine v_g H (o := 0) (v := I (u0_10)) rfl rfl rfl rfl rfl (congrArg (fun z : Int => I z) (((mF12 0 10 rfl).trans (eu0_10)) : F12 0 10 = u0_10)) ?_
      refine w_isub rfl ?_
      refine w_i2l rfl (show inr ((u2_1 - u0_10)) from q_2616 h4 h5) ?_
      refine w_lcmp rfl (show inrJ (z12) from pz12_0) (show inrJ ((u2_1 - u0_10)) from q_2995 h4 h5) (fun z13 gz13 gaz13 gbz13 => ?_)
      refine w_ifeq (t := 120) rfl rfl (show inr (z13) from gz13) (fun b14 => ?_) (fun b14 => ?_)
      · refine Ew_of (pcₚ := 121) (fun _ => x_aload_n rfl lc75_0) ?_
        refine Ew_of (pcₚ := 122) (fun _ => x_iconst rfl) ?_
        refine Ew_of (pcₚ := 123) (fun _ => x_iload_n rfl lc75_3) ?_
        refine v_inv H (o := 0) rfl rfl rfl rfl rfl rfl (by rfl) (C221 (D := puc 0 D) (N := puc 0 N) (HW_subc H oz_D5cls_30 oz_D5cls_10) (u0_12) (((((show F12 0 12 = F_c75 0 12 from (eF12 0 12))).trans (hS_c75 0 12 rfl)).trans (eu0_12))) (show inr (0) from q_20) (show inr (xc75_3) from jc75_0) (fun z15 σ15 F15ₚ A15ₚ Hₚ Oₚ hS15 hA15 y15_0_12 ey15_0_12 pz15_0 pz15_1 pz15_2 => ⟨rfl, ?_⟩))
        refine v_backc (c := c) (s := s) H oz_D5cls_30 oz_D5cls_10 Hₚ Oₚ (fun F15 A15 H Oₚ eF15 eA15 => ?_)
        have O := OUT_trans O Oₚ
        -- Tokens.fail
        have cF15 : SF oz_D5clsl_10 F F15 := SF_trans (cF12) (SF_gluc (ι := oz_D5clsl_3) oz_D5cls_10 hS15 eF15 (by decide +kernel)) (any_sub (lₚ := [(0, 12)]) (by decide +kernel))
        have mF15 := SFm_of cF15 oz_D5cls_34
        have cA15 : SA oz_D5clsl_1 A A15 := SA_trans (cA12) (SA_gluc (ι := oz_D5clsl_3) oz_D5cls_10 hA15 eA15 (by decide +kernel)) (any_subA (lₚ := []) (by decide +kernel))
        have mA15 := SAm_of cA15 oz_D5cls_7
        have r16 : (-2147483648 : Int) ≤ y15_0_12 ∧ y15_0_12 ≤ 2147483647 := rngE (show (-2147483648 : Int) ≤ F15 0 12 ∧ F15 0 12 ≤ 2147483647 from H.krg 0 12 (ltn len_V230_oz_D5cls rfl)) (show F15 0 12 = y15_0_12 from ((eF15 0 12).trans ey15_0_12))
        exact w_ireturn rfl (k (z15) _ _ _ H O (cF15) (cA15) (y15_0_12) (((eF15 0 12).trans ey15_0_12)) (show inr (z15) from pz15_0) (show 0 ≤ (z15) ∧ (z15) ≤ 11 from q_2994 pz15_1) (show (z15) = 0 → a1 ≤ (y15_0_12) ∧ (y15_0_12) ≤ (u0_5) from q_2993 h3 jc75_1 pz15_2))
      · refine Ew_of (pcₚ := 113) (fun _ => x_aload_n rfl lc75_0) ?_
        refine Ew_of (pcₚ := 115) (fun _ => x_bipush (z := 11) rfl (by decide)) ?_
        refine Ew_of (pcₚ := 116) (fun _ => x_iload_n rfl lc75_2) ?_
        refine v_inv H (o := 0) rfl rfl rfl rfl rfl rfl (by rfl) (C221 (D := puc 0 D) (N := puc 0 N) (HW_subc H oz_D5cls_30 oz_D5cls_10) (u0_12) (((((show F12 0 12 = F_c75 0 12 from (eF12 0 12))).trans (hS_c75 0 12 rfl)).trans (eu0_12))) (show inr (11) from q_67) (show inr (a2) from h1) (fun z17 σ17 F17ₚ A17ₚ Hₚ Oₚ hS17 hA17 y17_0_12 ey17_0_12 pz17_0 pz17_1 pz17_2 => ⟨rfl, ?_⟩))
        refine v_backc (c := c) (s := s) H oz_D5cls_30 oz_D5cls_10 Hₚ Oₚ (fun F17 A17 H Oₚ eF17 eA17 => ?_)
        have O := OUT_trans O Oₚ
        -- Tokens.fail
        have cF17 : SF oz_D5clsl_10 F F17 := SF_trans (cF12) (SF_gluc (ι := oz_D5clsl_3) oz_D5cls_10 hS17 eF17 (by decide +kernel)) (any_sub (lₚ := [(0, 12)]) (by decide +kernel))
        have mF17 := SFm_of cF17 oz_D5cls_34
        have cA17 : SA oz_D5clsl_1 A A17 := SA_trans (cA12) (SA_gluc (ι := oz_D5clsl_3) oz_D5cls_10 hA17 eA17 (by decide +kernel)) (any_subA (lₚ := []) (by decide +kernel))
        have mA17 := SAm_of cA17 oz_D5cls_7
        have r18 : (-2147483648 : Int) ≤ y17_0_12 ∧ y17_0_12 ≤ 2147483647 := rngE (show (-2147483648 : Int) ≤ F17 0 12 ∧ F17 0 12 ≤ 2147483647 from H.krg 0 12 (ltn len_V230_oz_D5cls rfl)) (show F17 0 12 = y17_0_12 from ((eF17 0 12).trans ey17_0_12))
        exact w_ireturn rfl (k (z17) _ _ _ H O (cF17) (cA17) (y17_0_12) (((eF17 0 12).trans ey17_0_12)) (show inr (z17) from pz17_0) (show 0 ≤ (z17) ∧ (z17) ≤ 11 from q_2997 pz17_1) (show (z17) = 0 → a1 ≤ (y17_0_12) ∧ (y17_0_12) ≤ (u0_5) from q_2996 h0 h2 pz17_1 r18))
  refine Ew_of (pcₚ := 3) (fun _ => x_aload_n rfl (rk_o (rfl) rfl rfl)) ?_
  refine v_g H (o := 0) (v := I (u0_8)) rfl rfl rfl rfl rfl (congrArg (fun z : Int => I z) ((eu0_8) : F 0 8 = u0_8)) ?_
  refine Ew_of (pcₚ := 7) (fun _ => x_iconst rfl) ?_
  refine w_iand rfl (show inr (u0_8) from q_22 r2) (show inr (4) from q_2) (fun z19 gz19 gaz19 gbz19 => ?_)
  refine w_ifeq (t := 75) rfl rfl (show inr (z19) from gz19) (fun b20 => ?_) (fun b20 => ?_)
  · exact hc75  _ _ _ _ (a1) (rk_o (rfl) rfl rfl) (rk_o (rfl) rfl rfl) (rk_s) H O (SF_refl) (SA_refl)     (show inr (a1) from h0) (show (a1) = (a1) ∨ (a1) = (a1) + 4 ∧ (a1) ≤ (u0_5) from q_2998)
  · refine Ew_of (pcₚ := 12) (fun _ => x_aload_n rfl (rk_o (rfl) rfl rfl)) ?_
    refine v_g H (o := 0) (v := I (u0_5)) rfl rfl rfl rfl rfl (congrArg (fun z : Int => I z) ((eu0_5) : F 0 5 = u0_5)) ?_
    refine Ew_of (pcₚ := 16) (fun _ => x_iload_n rfl rk_s) ?_
    refine w_isub rfl ?_
    refine Ew_of (pcₚ := 18) (fun _ => x_iconst rfl) ?_
    refine w_icmpge (t := 31) rfl rfl (show inr ((u0_5 - a1)) from q_2616 h2 h3) (show inr (4) from q_2) (fun b21 => ?_) (fun b21 => ?_)
    · refine Ew_of (pcₚ := 32) (fun _ => x_aload_n rfl (rk_o (rfl) rfl rfl)) ?_
      refine v_g H (o := 0) (v := .ref (D 1)) rfl rfl rfl rfl rfl (vrf (pf1)) ?_
      refine Ew_of (pcₚ := 36) (fun _ => x_iload_n rfl rk_s) ?_
      refine w_stat25 rfl rfl (by rfl) (C41_Br (D := puc 1 D) (N := puc 1 N) (HW_subc H oz_D5cls_32 oz_D5cls_8) (n1) (en1) (show inr (a1) from h0) (show 0 ≤ (a1) ∧ (a1) + 4 ≤ (n1) from q_2617 b21 h2 h3) (fun z22 σ22 F22ₚ A22ₚ Hₚ Oₚ hS22 hA22 pz22_0 => ⟨rfl, ?_⟩))
      refine v_backc (c := c) (s := s) H oz_D5cls_32 oz_D5cls_8 Hₚ Oₚ (fun F22 A22 H Oₚ eF22 eA22 => ?_)
      have O := OUT_trans O Oₚ
      -- PackHouse.word
      have cF22 : SF oz_D5clsl_10 F F22 := SF_trans (SF_refl) (SF_gluc (ι := oz_D5clsl_2) oz_D5cls_8 hS22 eF22 (by decide +kernel)) (any_sub (lₚ := []) (by decide +kernel))
      have mF22 := SFm_of cF22 oz_D5cls_34
      have cA22 : SA oz_D5clsl_1 A A22 := SA_trans (SA_refl) (SA_gluc (ι := oz_D5clsl_2) oz_D5cls_8 hA22 eA22 (by decide +kernel)) (any_subA (lₚ := []) (by decide +kernel))
      have mA22 := SAm_of cA22 oz_D5cls_7
      refine Ew_of (pcₚ := 40) (fun _ => x_aload_n rfl (rk_o (rfl) rfl rfl)) ?_
      refine v_g H (o := 0) (v := .ref (D 2)) rfl rfl rfl rfl rfl (vrf ((mF22 0 6 rfl).trans (pf2))) ?_
      refine v_g H (o := 2) (v := .ref (D 3)) rfl rfl rfl rfl rfl (vrf ((mF22 2 0 rfl).trans (pf3))) ?_
      refine Ew_of (pcₚ := 47) (fun _ => x_aload_n rfl (rk_o (rfl) rfl rfl)) ?_
      refine v_g H (o := 0) (v := I (u0_10)) rfl rfl rfl rfl rfl (congrArg (fun z : Int => I z) (((mF22 0 10 rfl).trans (eu0_10)) : F22 0 10 = u0_10)) ?_
      refine Ew_of (pcₚ := 51) (fun _ => x_aload_n rfl (rk_o (rfl) rfl rfl)) ?_
      refine v_g H (o := 0) (v := .ref (D 2)) rfl rfl rfl rfl rfl (vrf ((mF22 0 6 rfl).trans (pf2))) ?_
      refine v_g H (o := 2) (v := I (u2_1)) rfl rfl rfl rfl rfl (congrArg (fun z : Int => I z) (((mF22 2 1 rfl).trans (eu2_1)) : F22 2 1 = u2_1)) ?_
      refine Ew_of (pcₚ := 58) (fun _ => x_iconst rfl) ?_
      refine w_stat25 rfl rfl (by rfl) (C49_Br (D := puc 3 D) (N := puc 3 N) (HW_subc H oz_D5cls_33 oz_D5cls_35) (n3) (en3) (show inr (u0_10) from q_275 h5 r3) (show inr (u2_1) from q_884 h4) (show inr (0) from q_20) (show 0 ≤ (u0_10) ∧ (u0_10) ≤ (u2_1) ∧ (u2_1) ≤ (n3) from q_2999 h4 h5) (fun z23 σ23 F23ₚ A23ₚ Hₚ Oₚ hS23 hA23 pz23_0 => ⟨rfl, ?_⟩))
      refine v_backc (c := c) (s := s) H oz_D5cls_33 oz_D5cls_35 Hₚ Oₚ (fun F23 A23 H Oₚ eF23 eA23 => ?_)
      have O := OUT_trans O Oₚ
      -- PackHouse.narrowSum
      have cF23 : SF oz_D5clsl_10 F F23 := SF_trans (cF22) (SF_gluc (ι := oz_D5clsl_5) oz_D5cls_35 hS23 eF23 (by decide +kernel)) (any_sub (lₚ := []) (by decide +kernel))
      have mF23 := SFm_of cF23 oz_D5cls_34
      have cA23 : SA oz_D5clsl_1 A A23 := SA_trans (cA22) (SA_gluc (ι := oz_D5clsl_5) oz_D5cls_35 hA23 eA23 (by decide +kernel)) (any_subA (lₚ := []) (by decide +kernel))
      have mA23 := SAm_of cA23 oz_D5cls_7
      refine w_icmpeq (t := 72) rfl rfl (show inr (z22) from pz22_0) (show inr (z23) from pz23_0) (fun b24 => ?_) (fun b24 => ?_)
      · refine Ew_of (pcₚ := 75) (fun _ => x_iinc (len := 3) rfl (rk_s)) ?_
        exact hc75  _ _ _ _ ((a1 + 4)) (rk_o (rk_o (rfl) rfl rfl) rfl rfl) (rk_o (rk_o (rfl) rfl rfl) rfl rfl) (rk_s) H O (SF_trans (SF_trans (SF_refl) (SF_gluc (ι := oz_D5clsl_2) oz_D5cls_8 hS22 eF22 (by decide +kernel)) (any_sub (lₚ := []) (by decide +kernel))) (SF_gluc (ι := oz_D5clsl_5) oz_D5cls_35 hS23 eF23 (by decide +kernel)) (any_sub (lₚ := []) (by decide +kernel))) (SA_trans (SA_trans (SA_refl) (SA_gluc (ι := oz_D5clsl_2) oz_D5cls_8 hA22 eA22 (by decide +kernel)) (any_subA (lₚ := []) (by decide +kernel))) (SA_gluc (ι := oz_D5clsl_5) oz_D5cls_35 hA23 eA23 (by decide +kernel)) (any_subA (lₚ := []) (by decide +kernel)))     (show inr ((a1 + 4)) from q_3001 b21 h2 h3) (show ((a1 + 4)) = (a1) ∨ ((a1 + 4)) = (a1) + 4 ∧ ((a1 + 4)) ≤ (u0_5) from q_3000 b21)
      · refine Ew_of (pcₚ := 65) (fun _ => x_aload_n rfl (rk_o (rfl) rfl rfl)) ?_
        refine Ew_of (pcₚ := 67) (fun _ => x_bipush (z := 10) rfl (by decide)) ?_
        refine Ew_of (pcₚ := 68) (fun _ => x_iload_n rfl rk_s) ?_
        refine v_inv H (o := 0) rfl rfl rfl rfl rfl rfl (by rfl) (C221 (D := puc 0 D) (N := puc 0 N) (HW_subc H oz_D5cls_30 oz_D5cls_10) (u0_12) (((((show F23 0 12 = F22 0 12 from (eF23 0 12))).trans ((show F22 0 12 = F 0 12 from (eF22 0 12)))).trans (eu0_12))) (show inr (10) from q_532) (show inr (a1) from h0) (fun z25 σ25 F25ₚ A25ₚ Hₚ Oₚ hS25 hA25 y25_0_12 ey25_0_12 pz25_0 pz25_1 pz25_2 => ⟨rfl, ?_⟩))
        refine v_backc (c := c) (s := s) H oz_D5cls_30 oz_D5cls_10 Hₚ Oₚ (fun F25 A25 H Oₚ eF25 eA25 => ?_)
        have O := OUT_trans O Oₚ
        -- Tokens.fail
        have cF25 : SF oz_D5clsl_10 F F25 := SF_trans (cF23) (SF_gluc (ι := oz_D5clsl_3) oz_D5cls_10 hS25 eF25 (by decide +kernel)) (any_sub (lₚ := [(0, 12)]) (by decide +kernel))
        have mF25 := SFm_of cF25 oz_D5cls_34
        have cA25 : SA oz_D5clsl_1 A A25 := SA_trans (cA23) (SA_gluc (ι := oz_D5clsl_3) oz_D5cls_10 hA25 eA25 (by decide +kernel)) (any_subA (lₚ := []) (by decide +kernel))
        have mA25 := SAm_of cA25 oz_D5cls_7
        have r26 : (-2147483648 : Int) ≤ y25_0_12 ∧ y25_0_12 ≤ 2147483647 := rngE (show (-2147483648 : Int) ≤ F25 0 12 ∧ F25 0 12 ≤ 2147483647 from H.krg 0 12 (ltn len_V230_oz_D5cls rfl)) (show F25 0 12 = y25_0_12 from ((eF25 0 12).trans ey25_0_12))
        exact w_ireturn rfl (k (z25) _ _ _ H O (cF25) (cA25) (y25_0_12) (((eF25 0 12).trans ey25_0_12)) (show inr (z25) from pz25_0) (show 0 ≤ (z25) ∧ (z25) ≤ 11 from q_3003 pz25_1) (show (z25) = 0 → a1 ≤ (y25_0_12) ∧ (y25_0_12) ≤ (u0_5) from q_3002 b21 pz25_2))
    · refine Ew_of (pcₚ := 22) (fun _ => x_aload_n rfl (rk_o (rfl) rfl rfl)) ?_
      refine Ew_of (pcₚ := 23) (fun _ => x_iconst rfl) ?_
      refine Ew_of (pcₚ := 24) (fun _ => x_aload_n rfl (rk_o (rfl) rfl rfl)) ?_
      refine v_g H (o := 0) (v := I (u0_5)) rfl rfl rfl rfl rfl (congrArg (fun z : Int => I z) ((eu0_5) : F 0 5 = u0_5)) ?_
      refine v_inv H (o := 0) rfl rfl rfl rfl rfl rfl (by rfl) (C221 (D := puc 0 D) (N := puc 0 N) (HW_subc H oz_D5cls_30 oz_D5cls_10) (u0_12) ((eu0_12)) (show inr (1) from q_23) (show inr (u0_5) from q_884 h2) (fun z27 σ27 F27ₚ A27ₚ Hₚ Oₚ hS27 hA27 y27_0_12 ey27_0_12 pz27_0 pz27_1 pz27_2 => ⟨rfl, ?_⟩))
      refine v_backc (c := c) (s := s) H oz_D5cls_30 oz_D5cls_10 Hₚ Oₚ (fun F27 A27 H Oₚ eF27 eA27 => ?_)
      have O := OUT_trans O Oₚ
      -- Tokens.fail
      have cF27 : SF oz_D5clsl_10 F F27 := SF_trans (SF_refl) (SF_gluc (ι := oz_D5clsl_3) oz_D5cls_10 hS27 eF27 (by decide +kernel)) (any_sub (lₚ := [(0, 12)]) (by decide +kernel))
      have mF27 := SFm_of cF27 oz_D5cls_34
      have cA27 : SA oz_D5clsl_1 A A27 := SA_trans (SA_refl) (SA_gluc (ι := oz_D5clsl_3) oz_D5cls_10 hA27 eA27 (by decide +kernel)) (any_subA (lₚ := []) (by decide +kernel))
      have mA27 := SAm_of cA27 oz_D5cls_7
      have r28 : (-2147483648 : Int) ≤ y27_0_12 ∧ y27_0_12 ≤ 2147483647 := rngE (show (-2147483648 : Int) ≤ F27 0 12 ∧ F27 0 12 ≤ 2147483647 from H.krg 0 12 (ltn len_V230_oz_D5cls rfl)) (show F27 0 12 = y27_0_12 from ((eF27 0 12).trans ey27_0_12))
      exact w_ireturn rfl (k (z27) _ _ _ H O (cF27) (cA27) (y27_0_12) (((eF27 0 12).trans ey27_0_12)) (show inr (z27) from pz27_0) (show 0 ≤ (z27) ∧ (z27) ≤ 11 from q_3005 pz27_1) (show (z27) = 0 → a1 ≤ (y27_0_12) ∧ (y27_0_12) ≤ (u0_5) from q_3004 h3 pz27_2))
abbrev V226_Row_Row : vV := [(0, 11, [(4, 0), (4, 0), (4, 0), (4, 0), (4, 0), (0, 0), (4, 0), (0, 0), (0, 0), (0, 0), (0, 0), (0, 0), (0, 0)]), (0, 7, [(4, 0), (0, 0), (1, 0), (0, 0), (0, 0)]), (0, 7, [(4, 0), (0, 0), (1, 0), (0, 0), (0, 0)]), (1, 0, []), (1, 0, []), (0, 7, [(4, 0), (0, 0), (1, 0), (0, 0), (0, 0)]), (1, 0, [])]
theorem len_V226_Row_Row_oz_D5cls : (V226_Row_Row).length = 7 := by decide +kernel
theorem oz_D5cls_37 : vsub V226_Row_Row V222_Row_Row [0, 1, 2, 3] = true := by decide +kernel
theorem oz_D5cls_38 : vsub V226_Row_Row V221 [0] = true := by decide +kernel
theorem oz_D5cls_39 : vsub V226_Row_Row V43_Br [3] = true := by decide +kernel
theorem oz_D5cls_40 : vsub V226_Row_Row V227 [0, 3, 2, 4] = true := by decide +kernel
theorem oz_D5cls_41 : vsub V226_Row_Row V230 [0, 3, 2, 4] = true := by decide +kernel
theorem oz_D5cls_42 : vsub V226_Row_Row V228 [0, 3, 2, 4, 5, 6] = true := by decide +kernel
theorem oz_D5cls_43 : vmov V226_Row_Row [0, 3, 2, 4, 5, 6] [3] = true := by decide +kernel
theorem oz_D5cls_44 : vsub V226_Row_Row V44_Br [3] = true := by decide +kernel
def oz_D5clsl_11 : List (Nat × Nat) := [(0, 4), (0, 5), (0, 6), (0, 7), (0, 8), (0, 9), (0, 10), (0, 11), (0, 12), (2, 0), (2, 1), (2, 2)]
theorem oz_D5cls_45 : (oz_D5clsl_11).all (fun p => !tbz 129127208515966869488 (Nat.add (Nat.mul 32 p.1) p.2)) = true := by decide +kernel
def oz_D5clsl_12 : List Nat := [4]
theorem oz_D5cls_46 : (oz_D5clsl_12).all (fun p => !tbz 16 p) = true := by decide +kernel
def oz_D5clsl_13 : List Nat := [0, 3, 2, 4]
theorem oz_D5cls_47 : okc oz_D5clsl_13 537396736 = true := by decide +kernel
def oz_D5clsl_14 : List Nat := [0, 3, 2, 4, 5, 6]
theorem oz_D5cls_48 : okc oz_D5clsl_14 211450367313408 = true := by decide +kernel
/-- Tokens.unpackFrames: this, #1, #2, #1.bytes, #2.bytes, this.past, this.past.bytes -/
theorem C226_Row_Row {σE : rS} {D N : Nat → Nat} {F : hF} {A : hA} {d c s : Nat} {Q : wQ} (H : HW V226_Row_Row σE D N F A) {a3 : Int} (pf3 : F 1 0 = (D 3 : Int)) (pf4 : F 2 0 = (D 4 : Int)) (pf5 : F 0 1 = (D 5 : Int)) (pf6 : F 5 0 = (D 6 : Int)) (n3 : Int) (en3 : (N 3 : Int) = n3) (n4 : Int) (en4 : (N 4 : Int) = n4) (n6 : Int) (en6 : (N 6 : Int) = n6) (u1_1 : Int) (eu1_1 : F 1 1 = u1_1) (u2_1 : Int) (eu2_1 : F 2 1 = u2_1) (u5_1 : Int) (eu5_1 : F 5 1 = u5_1) (h0 : inr (a3)) (h1 : 0 ≤ (u1_1) ∧ (u1_1) ≤ (n3) ∧ (n3) ≤ 65536) (h2 : 0 ≤ (u2_1) ∧ (u2_1) ≤ (n4) ∧ (n4) ≤ 65536) (h3 : 0 ≤ (u5_1) ∧ (u5_1) ≤ (n6) ∧ (n6) ≤ 65536) (h4 : 0 ≤ (a3) ∧ (a3) ≤ 65536) (h5 : (u2_1) ≤ (a3)) (k : ∀ (z : Int) (σ : rS) (Dₚ Nₚ : Nat → Nat) (Fₚ : hF) (Aₚ : hA) (cₚ sₚ : Nat), HW V226_Row_Row σ Dₚ Nₚ Fₚ Aₚ → OUT (V226_Row_Row).length D N σE c s Dₚ Nₚ σ cₚ sₚ → SD [4] D Dₚ → SD [4] N Nₚ → SF [(0, 4), (0, 5), (0, 6), (0, 7), (0, 8), (0, 9), (0, 10), (0, 11), (0, 12), (2, 0), (2, 1), (2, 2)] F Fₚ → SA [4] A Aₚ → Fₚ 2 0 = (Dₚ 4 : Int) → ∀ m4 : Int, (Nₚ 4 : Int) = m4 → ∀ y2_1 : Int, Fₚ 2 1 = y2_1 → (inr (z)) → (0 ≤ (z) ∧ (z) ≤ 11) → (0 ≤ (y2_1) ∧ (y2_1) ≤ (m4) ∧ (m4) ≤ 65536) → Q (some (I z)) σ cₚ sₚ) : Ew 226 (d + 5) 0 (rargs 0 [.ref (D 0), .ref (D 1), .ref (D 2), I a3]) [] σE c s Q := by
  have O := OUT_refl (n := (V226_Row_Row).length) (D := D) (N := N) (σ := σE) (c := c) (s := s)
  have HE := H
  have r1 : (-2147483648 : Int) ≤ u1_1 ∧ u1_1 ≤ 2147483647 := rngE (show (-2147483648 : Int) ≤ F 1 1 ∧ F 1 1 ≤ 2147483647 from H.krg 1 1 (ltn len_V226_Row_Row_oz_D5cls rfl)) (show F 1 1 = u1_1 from (eu1_1))
  have r2 : (-2147483648 : Int) ≤ u2_1 ∧ u2_1 ≤ 2147483647 := rngE (show (-2147483648 : Int) ≤ F 2 1 ∧ F 2 1 ≤ 2147483647 from H.krg 2 1 (ltn len_V226_Row_Row_oz_D5cls rfl)) (show F 2 1 = u2_1 from (eu2_1))
  have r3 : (-2147483648 : Int) ≤ u5_1 ∧ u5_1 ≤ 2147483647 := rngE (show (-2147483648 : Int) ≤ F 5 1 ∧ F 5 1 ≤ 2147483647 from H.krg 5 1 (ltn len_V226_Row_Row_oz_D5cls rfl)) (show F 5 1 = u5_1 from (eu5_1))
  have r4 : (0 : Int) ≤ n3 ∧ n3 ≤ 1000000 := nleE (H.nle 3 (ltn len_V226_Row_Row_oz_D5cls rfl)) (show (N 3 : Int) = n3 from en3)
  have r5 : (0 : Int) ≤ n4 ∧ n4 ≤ 1000000 := nleE (H.nle 4 (ltn len_V226_Row_Row_oz_D5cls rfl)) (show (N 4 : Int) = n4 from en4)
  have r6 : (0 : Int) ≤ n6 ∧ n6 ≤ 1000000 := nleE (H.nle 6 (ltn len_V226_Row_Row_oz_D5cls rfl)) (show (N 6 : Int) = n6 from en6)
  refine Ew_of (pcₚ := 1) (fun _ => x_aload_n rfl rfl) ?_
  refine Ew_of (pcₚ := 2) (fun _ => x_aload_n rfl rfl) ?_
  refine Ew_of (pcₚ := 3) (fun _ => x_aload_n rfl rfl) ?_
  refine Ew_of (pcₚ := 4) (fun _ => x_iload_n rfl rfl) ?_
  have r7 : (-2147483648 : Int) ≤ F 0 5 ∧ F 0 5 ≤ 2147483647 := H.krg 0 5 (ltn len_V226_Row_Row_oz_D5cls rfl)
  have r8 : (-2147483648 : Int) ≤ F 0 7 ∧ F 0 7 ≤ 2147483647 := H.krg 0 7 (ltn len_V226_Row_Row_oz_D5cls rfl)
  have r9 : (-2147483648 : Int) ≤ F 0 12 ∧ F 0 12 ≤ 2147483647 := H.krg 0 12 (ltn len_V226_Row_Row_oz_D5cls rfl)
  refine v_inv H (o := 0) rfl rfl rfl rfl rfl rfl (by rfl) (C222_Row_Row (D := puc 403177984 D) (N := puc 403177984 N) (HW_subc H oz_D5cls_37 oz_D5cls_28) (pf3) (n3) (en3) (F 0 5) (rfl) (F 0 7) (rfl) (F 0 12) (rfl) (u1_1) ((eu1_1)) (show inr (a3) from h0) (fun σ10 F10ₚ A10ₚ Hₚ Oₚ hS10 hA10 y10_0_5 ey10_0_5 y10_0_7 ey10_0_7 y10_0_12 ey10_0_12 pq10_0 pq10_1 pz10_0 => ⟨rfl, ?_⟩))
  refine v_backc (c := c) (s := s) H oz_D5cls_37 oz_D5cls_28 Hₚ Oₚ (fun F10 A10 H Oₚ eF10 eA10 => ?_)
  have O := OUT_trans O Oₚ
  -- Tokens.begin
  have cF10 : SF oz_D5clsl_11 F F10 := SF_trans (SF_refl) (SF_gluc (ι := oz_D5clsl_9) oz_D5cls_28 hS10 eF10 (by decide +kernel)) (any_sub (lₚ := [(0, 4), (0, 5), (0, 6), (0, 7), (0, 12)]) (by decide +kernel))
  have mF10 := SFm_of cF10 oz_D5cls_45
  have cA10 : SA oz_D5clsl_12 A A10 := SA_trans (SA_refl) (SA_gluc (ι := oz_D5clsl_9) oz_D5cls_28 hA10 eA10 (by decide +kernel)) (any_subA (lₚ := []) (by decide +kernel))
  have mA10 := SAm_of cA10 oz_D5cls_46
  have pl10_0 : F10 0 4 = (D 3 : Int) := (eF10 0 4).trans (pq10_0)
  have pl10_1 : F10 0 6 = (D 2 : Int) := (eF10 0 6).trans (pq10_1)
  have r11 : (-2147483648 : Int) ≤ y10_0_5 ∧ y10_0_5 ≤ 2147483647 := rngE (show (-2147483648 : Int) ≤ F10 0 5 ∧ F10 0 5 ≤ 2147483647 from H.krg 0 5 (ltn len_V226_Row_Row_oz_D5cls rfl)) (show F10 0 5 = y10_0_5 from ((eF10 0 5).trans ey10_0_5))
  have r12 : (-2147483648 : Int) ≤ y10_0_7 ∧ y10_0_7 ≤ 2147483647 := rngE (show (-2147483648 : Int) ≤ F10 0 7 ∧ F10 0 7 ≤ 2147483647 from H.krg 0 7 (ltn len_V226_Row_Row_oz_D5cls rfl)) (show F10 0 7 = y10_0_7 from ((eF10 0 7).trans ey10_0_7))
  have r13 : (-2147483648 : Int) ≤ y10_0_12 ∧ y10_0_12 ≤ 2147483647 := rngE (show (-2147483648 : Int) ≤ F10 0 12 ∧ F10 0 12 ≤ 2147483647 from H.krg 0 12 (ltn len_V226_Row_Row_oz_D5cls rfl)) (show F10 0 12 = y10_0_12 from ((eF10 0 12).trans ey10_0_12))
  refine Ew_of (pcₚ := 8) (fun _ => x_iconst rfl) ?_
  refine Ew_of (pcₚ := 10) (fun _ => x_istore rfl) ?_
  refine Ew_of (pcₚ := 11) (fun _ => x_iconst rfl) ?_
  refine Ew_of (pcₚ := 13) (fun _ => x_istore rfl) ?_
  suffices hl13 : ∀ (m : Nat), ∀ (ls : rO) (σ : rS) (D_13 N_13 : Nat → Nat) (c_13 s_13 : Nat) (F_13 : hF) (A_13 : hA) (x13_4 : Int) (x13_5 : Int), rlook ls 0 = some (.ref (D_13 0)) → rlook ls 4 = some (I (x13_4)) → rlook ls 5 = some (I (x13_5)) → HW V226_Row_Row σ D_13 N_13 F_13 A_13 → OUT (V226_Row_Row).length D N σE c s D_13 N_13 σ c_13 s_13 → SD [4] D D_13 → SD [4] N N_13 → SF [(0, 8), (0, 9), (0, 10), (0, 11), (0, 12), (2, 0), (2, 1), (2, 2)] F10 F_13 → SA [4] A10 A_13 → F_13 2 0 = (D_13 4 : Int) → ∀ m13_4 : Int, (N_13 4 : Int) = m13_4 → ∀ y13_2_1 : Int, F_13 2 1 = y13_2_1 → (inr (x13_4)) → (inr (x13_5)) → ((0) ≤ (x13_5)) → ((x13_5) ≤ (0) ∨ (x13_5) ≤ ((y10_0_5))) → (0 ≤ (x13_4) ∧ (x13_4) ≤ (y10_0_5)) → (0 ≤ (y13_2_1) ∧ (y13_2_1) ≤ (m13_4) ∧ (m13_4) ≤ 65536) → ((y13_2_1) ≤ (a3)) → (0 ≤ (y10_0_5) ∧ (y10_0_5) ≤ (n3)) → (((y10_0_5)) - (x13_5)).toNat = m → Ew 226 (d + 5) 13 ls [] σ c_13 s_13 Q from
    hl13 _ _ _ _ _ _ _ _ _ (0) (0) (rk_o (rk_o (rfl) rfl rfl) rfl rfl) (rk_o (rk_s) rfl rfl) (rk_s) H O (SD_refl) (SD_refl) (SF_refl) (SA_refl) ((((show F10 2 0 = F 2 0 from (eF10 2 0).trans (hS10 2 0 rfl)))).trans (pf4)) (n4) (en4) (u2_1) ((((show F10 2 1 = F 2 1 from (eF10 2 1).trans (hS10 2 1 rfl))).trans (eu2_1)))  (show inr (0) from q_20) (show inr (0) from q_20) (show (0) ≤ (0) from q_25) (show (0) ≤ (0) ∨ (0) ≤ ((y10_0_5)) from q_24) (show 0 ≤ (0) ∧ (0) ≤ (y10_0_5) from q_3007 h1 pz10_0) (show 0 ≤ (u2_1) ∧ (u2_1) ≤ (n4) ∧ (n4) ≤ 65536 from h2) (show (u2_1) ≤ (a3) from h5) (show 0 ≤ (y10_0_5) ∧ (y10_0_5) ≤ (n3) from q_3006 h1 pz10_0) rfl
  as_aux_lemma =>
  intro m
  induction m using Nat.strongRecOn with
  | _ m ih13 =>
    intro ls σ D_13 N_13 c_13 s_13 F_13 A_13 x13_4 x13_5 l13_0 l13_4 l13_5 H O hD_13 hN_13 hS_13 hA_13 pm13_4 m13_4 em13_4 y13_2_1 ey13_2_1  j13_0 j13_1 j13_2 j13_3 j13_4 j13_5 j13_6 j13_7 hm13
    have cF_13 : SF oz_D5clsl_11 F F_13 := SF_trans (cF10) hS_13 (any_sub (by decide +kernel))
    have mF_13 := SFm_of cF_13 oz_D5cls_45
    have cA_13 : SA oz_D5clsl_12 A A_13 := SA_trans (cA10) hA_13 (any_subA (by decide +kernel))
    have mA_13 := SAm_of cA_13 oz_D5cls_46
    have cD_13 : SD oz_D5clsl_12 D D_13 := SD_trans (SD_refl) hD_13 (any_subA (by decide +kernel))
    have mD_13 := SDm_of cD_13 oz_D5cls_46
    have cN_13 : SD oz_D5clsl_12 N N_13 := SD_trans (SD_refl) hN_13 (any_subA (by decide +kernel))
    have mN_13 := SDm_of cN_13 oz_D5cls_46
    have pf_13_0_4 : F_13 0 4 = (D_13 3 : Int) := (hS_13 0 4 rfl).trans ((pl10_0).trans (congrArg (fun q : Nat => (q : Int)) (hD_13 3 rfl).symm))
    have pf_13_0_6 : F_13 0 6 = (D_13 2 : Int) := (hS_13 0 6 rfl).trans ((pl10_1).trans (congrArg (fun q : Nat => (q : Int)) (hD_13 2 rfl).symm))
    have r14 : (0 : Int) ≤ m13_4 ∧ m13_4 ≤ 1000000 := nleE (H.nle 4 (ltn len_V226_Row_Row_oz_D5cls rfl)) (show (N_13 4 : Int) = m13_4 from em13_4)
    have r15 : (-2147483648 : Int) ≤ y13_2_1 ∧ y13_2_1 ≤ 2147483647 := rngE (show (-2147483648 : Int) ≤ F_13 2 1 ∧ F_13 2 1 ≤ 2147483647 from H.krg 2 1 (ltn len_V226_Row_Row_oz_D5cls rfl)) (show F_13 2 1 = y13_2_1 from (ey13_2_1))
    refine Ew_of (pcₚ := 15) (fun _ => x_iload rfl l13_5) ?_
    refine Ew_of (pcₚ := 16) (fun _ => x_aload_n rfl l13_0) ?_
    refine v_g H (o := 0) (v := I (y10_0_5)) rfl rfl rfl rfl rfl (congrArg (fun z : Int => I z) (((hS_13 0 5 rfl).trans ((eF10 0 5).trans ey10_0_5)) : F_13 0 5 = y10_0_5)) ?_
    have hc171 : ∀ (ls : rO) (σ : rS) (F_c171 : hF) (A_c171 : hA) , rlook ls 0 = some (.ref (D_13 0)) → HW V226_Row_Row σ D_13 N_13 F_c171 A_c171 → OUT (V226_Row_Row).length D N σE c s D_13 N_13 σ c_13 s_13 → SF [] F_13 F_c171 → SA [] A_13 A_c171 → (((x13_5) ≥ (y10_0_5)) ∨ ((x13_5) < (y10_0_5) ∧ (x13_4) ≥ (y10_0_5))) → Ew 226 (d + 5) 171 ls [] σ c_13 s_13 Q := by
     as_aux_lemma =>
      intro  ls σ F_c171 A_c171  lc171_0 H O hS_c171 hA_c171     jc171_0
      have cF_c171 : SF oz_D5clsl_11 F F_c171 := SF_trans (cF_13) hS_c171 (any_sub (by decide +kernel))
      have mF_c171 := SFm_of cF_c171 oz_D5cls_45
      have cA_c171 : SA oz_D5clsl_12 A A_c171 := SA_trans (cA_13) hA_c171 (any_subA (by decide +kernel))
      have mA_c171 := SAm_of cA_c171 oz_D5cls_46
      refine Ew_of (pcₚ := 172) (fun _ => x_aload_n rfl lc171_0) ?_
      refine Ew_of (pcₚ := 173) (fun _ => x_iconst rfl) ?_
      refine Ew_of (pcₚ := 174) (fun _ => x_aload_n rfl lc171_0) ?_
      refine v_g H (o := 0) (v := I (y10_0_5)) rfl rfl rfl rfl rfl (congrArg (fun z : Int => I z) ((((hS_c171 0 5 rfl).trans (hS_13 0 5 rfl)).trans ((eF10 0 5).trans ey10_0_5)) : F_c171 0 5 = y10_0_5)) ?_
      have r16 : (-2147483648 : Int) ≤ F_13 0 12 ∧ F_13 0 12 ≤ 2147483647 := rngE (show (-2147483648 : Int) ≤ F_c171 0 12 ∧ F_c171 0 12 ≤ 2147483647 from H.krg 0 12 (ltn len_V226_Row_Row_oz_D5cls rfl)) (show F_c171 0 12 = F_13 0 12 from (hS_c171 0 12 rfl))
      refine v_inv H (o := 0) rfl rfl rfl rfl rfl rfl (by rfl) (C221 (D := puc 0 D_13) (N := puc 0 N_13) (HW_subc H oz_D5cls_38 oz_D5cls_10) (F_13 0 12) ((hS_c171 0 12 rfl)) (show inr (0) from q_20) (show inr (y10_0_5) from q_275 j13_7 r11) (fun z17 σ17 F17ₚ A17ₚ Hₚ Oₚ hS17 hA17 y17_0_12 ey17_0_12 pz17_0 pz17_1 pz17_2 => ⟨rfl, ?_⟩))
      refine v_backc (c := c_13) (s := s_13) H oz_D5cls_38 oz_D5cls_10 Hₚ Oₚ (fun F17 A17 H Oₚ eF17 eA17 => ?_)
      have O := OUT_trans O Oₚ
      -- Tokens.fail
      have cF17 : SF oz_D5clsl_11 F F17 := SF_trans (cF_c171) (SF_gluc (ι := oz_D5clsl_3) oz_D5cls_10 hS17 eF17 (by decide +kernel)) (any_sub (lₚ := [(0, 12)]) (by decide +kernel))
      have mF17 := SFm_of cF17 oz_D5cls_45
      have cA17 : SA oz_D5clsl_12 A A17 := SA_trans (cA_c171) (SA_gluc (ι := oz_D5clsl_3) oz_D5cls_10 hA17 eA17 (by decide +kernel)) (any_subA (lₚ := []) (by decide +kernel))
      have mA17 := SAm_of cA17 oz_D5cls_46
      have r18 : (-2147483648 : Int) ≤ y17_0_12 ∧ y17_0_12 ≤ 2147483647 := rngE (show (-2147483648 : Int) ≤ F17 0 12 ∧ F17 0 12 ≤ 2147483647 from H.krg 0 12 (ltn len_V226_Row_Row_oz_D5cls rfl)) (show F17 0 12 = y17_0_12 from ((eF17 0 12).trans ey17_0_12))
      exact w_ireturn rfl (k (z17) _ _ _ _ _ _ _ H O (cD_13) (cN_13) (cF17) (cA17) (((((show F17 2 0 = F_c171 2 0 from (eF17 2 0))).trans (hS_c171 2 0 rfl))).trans (pm13_4)) (m13_4) (em13_4) (y13_2_1) (((((show F17 2 1 = F_c171 2 1 from (eF17 2 1))).trans (hS_c171 2 1 rfl)).trans (ey13_2_1))) (show inr (z17) from pz17_0) (show 0 ≤ (z17) ∧ (z17) ≤ 11 from q_2994 pz17_1) (show 0 ≤ (y13_2_1) ∧ (y13_2_1) ≤ (m13_4) ∧ (m13_4) ≤ 65536 from j13_5))
    refine w_icmpge (t := 171) rfl rfl (show inr (x13_5) from j13_1) (show inr (y10_0_5) from q_275 j13_7 r11) (fun b19 => ?_) (fun b19 => ?_)
    · exact hc171  _ _ _ _  (l13_0) H O (SF_refl) (SA_refl)     (show ((x13_5) ≥ (y10_0_5)) ∨ ((x13_5) < (y10_0_5) ∧ (x13_4) ≥ (y10_0_5)) from q_2905 b19)
    · refine Ew_of (pcₚ := 24) (fun _ => x_iload rfl l13_4) ?_
      refine Ew_of (pcₚ := 25) (fun _ => x_aload_n rfl l13_0) ?_
      refine v_g H (o := 0) (v := I (y10_0_5)) rfl rfl rfl rfl rfl (congrArg (fun z : Int => I z) (((hS_13 0 5 rfl).trans ((eF10 0 5).trans ey10_0_5)) : F_13 0 5 = y10_0_5)) ?_
      refine w_icmpge (t := 171) rfl rfl (show inr (x13_4) from j13_0) (show inr (y10_0_5) from q_275 j13_7 r11) (fun b20 => ?_) (fun b20 => ?_)
      · exact hc171  _ _ _ _  (l13_0) H O (SF_refl) (SA_refl)     (show ((x13_5) ≥ (y10_0_5)) ∨ ((x13_5) < (y10_0_5) ∧ (x13_4) ≥ (y10_0_5)) from q_2906 b19 b20)
      · refine Ew_of (pcₚ := 32) (fun _ => x_aload_n rfl l13_0) ?_
        refine v_g H (o := 0) (v := I (y10_0_5)) rfl rfl rfl rfl rfl (congrArg (fun z : Int => I z) (((hS_13 0 5 rfl).trans ((eF10 0 5).trans ey10_0_5)) : F_13 0 5 = y10_0_5)) ?_
        refine Ew_of (pcₚ := 37) (fun _ => x_iload rfl l13_4) ?_
        refine w_isub rfl ?_
        refine Ew_of (pcₚ := 39) (fun _ => x_iconst rfl) ?_
        refine w_icmpge (t := 52) rfl rfl (show inr ((y10_0_5 - x13_4)) from q_3008 b20 j13_4 r11) (show inr (4) from q_2) (fun b21 => ?_) (fun b21 => ?_)
        · refine Ew_of (pcₚ := 53) (fun _ => x_aload_n rfl l13_0) ?_
          refine v_g H (o := 0) (v := .ref (D_13 3)) rfl rfl rfl rfl rfl (vrf (pf_13_0_4)) ?_
          refine Ew_of (pcₚ := 58) (fun _ => x_iload rfl l13_4) ?_
          refine Ew_of (pcₚ := 59) (fun _ => x_aload_n rfl l13_0) ?_
          refine v_g H (o := 0) (v := I (y10_0_5)) rfl rfl rfl rfl rfl (congrArg (fun z : Int => I z) (((hS_13 0 5 rfl).trans ((eF10 0 5).trans ey10_0_5)) : F_13 0 5 = y10_0_5)) ?_
          refine w_stat25 rfl rfl (by rfl) (C43_Br (D := puc 3 D_13) (N := puc 3 N_13) (HW_subc H oz_D5cls_39 oz_D5cls_35) (n3) ((congrArg (fun q : Nat => (q : Int)) (mN_13 3 rfl)).trans (en3)) (show inr (x13_4) from j13_0) (show inr (y10_0_5) from q_275 j13_7 r11) (show 0 ≤ (x13_4) ∧ 0 ≤ (y10_0_5) ∧ (y10_0_5) ≤ (n3) ∧ (n3) ≤ 65536 ∧ (x13_4) ≤ 200000 from q_3009 b21 h1 j13_4 j13_7 r4) (fun z22 σ22 F22ₚ A22ₚ Hₚ Oₚ hS22 hA22 pz22_0 pz22_1 => ⟨rretB rfl pz22_0, ?_⟩))
          refine v_backc (c := c_13) (s := s_13) H oz_D5cls_39 oz_D5cls_35 Hₚ Oₚ (fun F22 A22 H Oₚ eF22 eA22 => ?_)
          have O := OUT_trans O Oₚ
          -- PackHouse.isSpare
          have cF22 : SF oz_D5clsl_11 F F22 := SF_trans (cF_13) (SF_gluc (ι := oz_D5clsl_5) oz_D5cls_35 hS22 eF22 (by decide +kernel)) (any_sub (lₚ := []) (by decide +kernel))
          have mF22 := SFm_of cF22 oz_D5cls_45
          have cA22 : SA oz_D5clsl_12 A A22 := SA_trans (cA_13) (SA_gluc (ι := oz_D5clsl_5) oz_D5cls_35 hA22 eA22 (by decide +kernel)) (any_subA (lₚ := []) (by decide +kernel))
          have mA22 := SAm_of cA22 oz_D5cls_46
          refine w_ifeq (t := 98) rfl rfl (show inr (z22) from q_15 pz22_0) (fun b23 => ?_) (fun b23 => ?_)
          · refine Ew_of (pcₚ := 99) (fun _ => x_aload_n rfl l13_0) ?_
            refine Ew_of (pcₚ := 101) (fun _ => x_iload rfl l13_4) ?_
            have r24 : (-2147483648 : Int) ≤ F_13 0 8 ∧ F_13 0 8 ≤ 2147483647 := rngE (show (-2147483648 : Int) ≤ F22 0 8 ∧ F22 0 8 ≤ 2147483647 from H.krg 0 8 (ltn len_V226_Row_Row_oz_D5cls rfl)) (show F22 0 8 = F_13 0 8 from ((show F22 0 8 = F_13 0 8 from (eF22 0 8))))
            have r25 : (-2147483648 : Int) ≤ F_13 0 9 ∧ F_13 0 9 ≤ 2147483647 := rngE (show (-2147483648 : Int) ≤ F22 0 9 ∧ F22 0 9 ≤ 2147483647 from H.krg 0 9 (ltn len_V226_Row_Row_oz_D5cls rfl)) (show F22 0 9 = F_13 0 9 from ((show F22 0 9 = F_13 0 9 from (eF22 0 9))))
            have r26 : (-2147483648 : Int) ≤ F_13 0 10 ∧ F_13 0 10 ≤ 2147483647 := rngE (show (-2147483648 : Int) ≤ F22 0 10 ∧ F22 0 10 ≤ 2147483647 from H.krg 0 10 (ltn len_V226_Row_Row_oz_D5cls rfl)) (show F22 0 10 = F_13 0 10 from ((show F22 0 10 = F_13 0 10 from (eF22 0 10))))
            have r27 : (-2147483648 : Int) ≤ F_13 0 12 ∧ F_13 0 12 ≤ 2147483647 := rngE (show (-2147483648 : Int) ≤ F22 0 12 ∧ F22 0 12 ≤ 2147483647 from H.krg 0 12 (ltn len_V226_Row_Row_oz_D5cls rfl)) (show F22 0 12 = F_13 0 12 from ((show F22 0 12 = F_13 0 12 from (eF22 0 12))))
            refine v_inv H (o := 0) rfl rfl rfl rfl rfl rfl (by rfl) (C227 (D := puc 537396736 D_13) (N := puc 537396736 N_13) (HW_subc H oz_D5cls_40 oz_D5cls_47) ((((show F22 0 4 = F_13 0 4 from (eF22 0 4)))).trans (pf_13_0_4)) ((((show F22 0 6 = F_13 0 6 from (eF22 0 6)))).trans (pf_13_0_6)) ((((show F22 2 0 = F_13 2 0 from (eF22 2 0)))).trans (pm13_4)) (n3) ((congrArg (fun q : Nat => (q : Int)) (mN_13 3 rfl)).trans (en3)) (m13_4) (em13_4) (y10_0_5) (((((show F22 0 5 = F_13 0 5 from (eF22 0 5))).trans (hS_13 0 5 rfl)).trans ((eF10 0 5).trans ey10_0_5))) (F_13 0 8) (((show F22 0 8 = F_13 0 8 from (eF22 0 8)))) (F_13 0 9) (((show F22 0 9 = F_13 0 9 from (eF22 0 9)))) (F_13 0 10) (((show F22 0 10 = F_13 0 10 from (eF22 0 10)))) (F_13 0 12) (((show F22 0 12 = F_13 0 12 from (eF22 0 12)))) (y13_2_1) ((((show F22 2 1 = F_13 2 1 from (eF22 2 1))).trans (ey13_2_1))) (show inr (x13_4) from j13_0) (show 0 ≤ (y10_0_5) ∧ (y10_0_5) ≤ (n3) ∧ (n3) ≤ 65536 from q_3011 h1 j13_7) (show 0 ≤ (x13_4) ∧ (x13_4) + 4 ≤ (y10_0_5) from q_3010 b21 j13_4) (show 0 ≤ (y13_2_1) ∧ (y13_2_1) ≤ (m13_4) ∧ (m13_4) ≤ 65536 from j13_5) (fun z28 σ28 F28ₚ A28ₚ Hₚ Oₚ hS28 hA28 y28_0_8 ey28_0_8 y28_0_9 ey28_0_9 y28_0_10 ey28_0_10 y28_0_12 ey28_0_12 pz28_0 pz28_1 pz28_2 pz28_3 => ⟨rfl, ?_⟩))
            refine v_backc (c := c_13) (s := s_13) H oz_D5cls_40 oz_D5cls_47 Hₚ Oₚ (fun F28 A28 H Oₚ eF28 eA28 => ?_)
            have O := OUT_trans O Oₚ
            -- Tokens.unpackHead
            have cF28 : SF oz_D5clsl_11 F F28 := SF_trans (cF22) (SF_gluc (ι := oz_D5clsl_13) oz_D5cls_47 hS28 eF28 (by decide +kernel)) (any_sub (lₚ := [(0, 8), (0, 9), (0, 10), (0, 12)]) (by decide +kernel))
            have mF28 := SFm_of cF28 oz_D5cls_45
            have cA28 : SA oz_D5clsl_12 A A28 := SA_trans (cA22) (SA_gluc (ι := oz_D5clsl_13) oz_D5cls_47 hA28 eA28 (by decide +kernel)) (any_subA (lₚ := []) (by decide +kernel))
            have mA28 := SAm_of cA28 oz_D5cls_46
            have r29 : (-2147483648 : Int) ≤ y28_0_8 ∧ y28_0_8 ≤ 2147483647 := rngE (show (-2147483648 : Int) ≤ F28 0 8 ∧ F28 0 8 ≤ 2147483647 from H.krg 0 8 (ltn len_V226_Row_Row_oz_D5cls rfl)) (show F28 0 8 = y28_0_8 from ((eF28 0 8).trans ey28_0_8))
            have r30 : (-2147483648 : Int) ≤ y28_0_9 ∧ y28_0_9 ≤ 2147483647 := rngE (show (-2147483648 : Int) ≤ F28 0 9 ∧ F28 0 9 ≤ 2147483647 from H.krg 0 9 (ltn len_V226_Row_Row_oz_D5cls rfl)) (show F28 0 9 = y28_0_9 from ((eF28 0 9).trans ey28_0_9))
            have r31 : (-2147483648 : Int) ≤ y28_0_10 ∧ y28_0_10 ≤ 2147483647 := rngE (show (-2147483648 : Int) ≤ F28 0 10 ∧ F28 0 10 ≤ 2147483647 from H.krg 0 10 (ltn len_V226_Row_Row_oz_D5cls rfl)) (show F28 0 10 = y28_0_10 from ((eF28 0 10).trans ey28_0_10))
            have r32 : (-2147483648 : Int) ≤ y28_0_12 ∧ y28_0_12 ≤ 2147483647 := rngE (show (-2147483648 : Int) ≤ F28 0 12 ∧ F28 0 12 ≤ 2147483647 from H.krg 0 12 (ltn len_V226_Row_Row_oz_D5cls rfl)) (show F28 0 12 = y28_0_12 from ((eF28 0 12).trans ey28_0_12))
            refine Ew_of (pcₚ := 106) (fun _ => x_istore rfl) ?_
            have hc124 : ∀ (tc124_0 : Int), ∀ (ls : rO) (σ : rS) (D_c124 N_c124 : Nat → Nat) (c_c124 s_c124 : Nat) (F_c124 : hF) (A_c124 : hA) , rlook ls 0 = some (.ref (D_c124 0)) → rlook ls 4 = some (I (x13_4)) → rlook ls 5 = some (I (x13_5)) → HW V226_Row_Row σ D_c124 N_c124 F_c124 A_c124 → OUT (V226_Row_Row).length D N σE c s D_c124 N_c124 σ c_c124 s_c124 → SD [4] D_13 D_c124 → SD [4] N_13 N_c124 → SF [(0, 11), (0, 12), (2, 0), (2, 1), (2, 2)] F28 F_c124 → SA [4] A28 A_c124 → F_c124 2 0 = (D_c124 4 : Int) → ∀ mc124_4 : Int, (N_c124 4 : Int) = mc124_4 → ∀ yc124_0_12 : Int, F_c124 0 12 = yc124_0_12 → ∀ yc124_2_1 : Int, F_c124 2 1 = yc124_2_1 → (inr (tc124_0)) → (0 ≤ (tc124_0) ∧ (tc124_0) ≤ 9) → (0 ≤ (yc124_2_1) ∧ (yc124_2_1) ≤ (mc124_4) ∧ (mc124_4) ≤ 65536) → ((yc124_2_1) ≤ (a3)) → (0 ≤ (y10_0_5) ∧ (y10_0_5) ≤ (n3)) → ((tc124_0) = 0 → (x13_4) + 4 ≤ (yc124_0_12) ∧ (yc124_0_12) ≤ (y10_0_5) ∧ 0 ≤ (y28_0_10) ∧ (y28_0_10) ≤ (yc124_2_1)) → ((tc124_0) = 0 → andI ((y28_0_8)) 8 = 0 ∨ (x13_4) + 14 ≤ (y10_0_5)) → Ew 226 (d + 5) 124 ls [I (tc124_0)] σ c_c124 s_c124 Q := by
             as_aux_lemma =>
              intro tc124_0 ls σ D_c124 N_c124 c_c124 s_c124 F_c124 A_c124  lc124_0 lc124_4 lc124_5 H O hD_c124 hN_c124 hS_c124 hA_c124 pmc124_4 mc124_4 emc124_4 yc124_0_12 eyc124_0_12 yc124_2_1 eyc124_2_1  jc124_0 jc124_1 jc124_2 jc124_3 jc124_4 jc124_5 jc124_6
              have cF_c124 : SF oz_D5clsl_11 F F_c124 := SF_trans (cF28) hS_c124 (any_sub (by decide +kernel))
              have mF_c124 := SFm_of cF_c124 oz_D5cls_45
              have cA_c124 : SA oz_D5clsl_12 A A_c124 := SA_trans (cA28) hA_c124 (any_subA (by decide +kernel))
              have mA_c124 := SAm_of cA_c124 oz_D5cls_46
              have cD_c124 : SD oz_D5clsl_12 D D_c124 := SD_trans (cD_13) hD_c124 (any_subA (by decide +kernel))
              have mD_c124 := SDm_of cD_c124 oz_D5cls_46
              have cN_c124 : SD oz_D5clsl_12 N N_c124 := SD_trans (cN_13) hN_c124 (any_subA (by decide +kernel))
              have mN_c124 := SDm_of cN_c124 oz_D5cls_46
              have pf_c124_0_4 : F_c124 0 4 = (D_c124 3 : Int) := (hS_c124 0 4 rfl).trans ((((((show F28 0 4 = F22 0 4 from (eF28 0 4).trans (hS28 0 4 rfl))).trans ((show F22 0 4 = F_13 0 4 from (eF22 0 4))))).trans (pf_13_0_4)).trans (congrArg (fun q : Nat => (q : Int)) (hD_c124 3 rfl).symm))
              have pf_c124_0_6 : F_c124 0 6 = (D_c124 2 : Int) := (hS_c124 0 6 rfl).trans ((((((show F28 0 6 = F22 0 6 from (eF28 0 6).trans (hS28 0 6 rfl))).trans ((show F22 0 6 = F_13 0 6 from (eF22 0 6))))).trans (pf_13_0_6)).trans (congrArg (fun q : Nat => (q : Int)) (hD_c124 2 rfl).symm))
              have r33 : (0 : Int) ≤ mc124_4 ∧ mc124_4 ≤ 1000000 := nleE (H.nle 4 (ltn len_V226_Row_Row_oz_D5cls rfl)) (show (N_c124 4 : Int) = mc124_4 from emc124_4)
              have r34 : (-2147483648 : Int) ≤ yc124_0_12 ∧ yc124_0_12 ≤ 2147483647 := rngE (show (-2147483648 : Int) ≤ F_c124 0 12 ∧ F_c124 0 12 ≤ 2147483647 from H.krg 0 12 (ltn len_V226_Row_Row_oz_D5cls rfl)) (show F_c124 0 12 = yc124_0_12 from (eyc124_0_12))
              have r35 : (-2147483648 : Int) ≤ yc124_2_1 ∧ yc124_2_1 ≤ 2147483647 := rngE (show (-2147483648 : Int) ≤ F_c124 2 1 ∧ F_c124 2 1 ≤ 2147483647 from H.krg 2 1 (ltn len_V226_Row_Row_oz_D5cls rfl)) (show F_c124 2 1 = yc124_2_1 from (eyc124_2_1))
              refine Ew_of (pcₚ := 126) (fun _ => x_istore rfl) ?_
              have hc149 : ∀ (tc149_0 : Int), ∀ (ls : rO) (σ : rS) (F_c149 : hF) (A_c149 : hA) , rlook ls 0 = some (.ref (D_c124 0)) → rlook ls 5 = some (I (x13_5)) → HW V226_Row_Row σ D_c124 N_c124 F_c149 A_c149 → OUT (V226_Row_Row).length D N σE c s D_c124 N_c124 σ c_c124 s_c124 → SF [(0, 12)] F_c124 F_c149 → SA [] A_c124 A_c149 → ∀ yc149_0_12 : Int, F_c149 0 12 = yc149_0_12 → (inr (tc149_0)) → (0 ≤ (tc149_0) ∧ (tc149_0) ≤ 11) → (0 ≤ (yc124_2_1) ∧ (yc124_2_1) ≤ (mc124_4) ∧ (mc124_4) ≤ 65536) → ((yc124_2_1) ≤ (a3)) → (0 ≤ (y10_0_5) ∧ (y10_0_5) ≤ (n3)) → ((tc149_0) = 0 → (x13_4) + 4 ≤ (yc149_0_12) ∧ (yc149_0_12) ≤ (y10_0_5)) → Ew 226 (d + 5) 149 ls [I (tc149_0)] σ c_c124 s_c124 Q := by
               as_aux_lemma =>
                intro tc149_0 ls σ F_c149 A_c149  lc149_0 lc149_5 H O hS_c149 hA_c149   yc149_0_12 eyc149_0_12  jc149_0 jc149_1 jc149_2 jc149_3 jc149_4 jc149_5
                have cF_c149 : SF oz_D5clsl_11 F F_c149 := SF_trans (cF_c124) hS_c149 (any_sub (by decide +kernel))
                have mF_c149 := SFm_of cF_c149 oz_D5cls_45
                have cA_c149 : SA oz_D5clsl_12 A A_c149 := SA_trans (cA_c124) hA_c149 (any_subA (by decide +kernel))
                have mA_c149 := SAm_of cA_c149 oz_D5cls_46
                have r36 : (-2147483648 : Int) ≤ yc149_0_12 ∧ yc149_0_12 ≤ 2147483647 := rngE (show (-2147483648 : Int) ≤ F_c149 0 12 ∧ F_c149 0 12 ≤ 2147483647 from H.krg 0 12 (ltn len_V226_Row_Row_oz_D5cls rfl)) (show F_c149 0 12 = yc149_0_12 from (eyc149_0_12))
                refine Ew_of (pcₚ := 151) (fun _ => x_istore rfl) ?_
                refine Ew_of (pcₚ := 153) (fun _ => x_iload rfl rk_s) ?_
                refine w_ifeq (t := 159) rfl rfl (show inr (tc149_0) from jc149_0) (fun b37 => ?_) (fun b37 => ?_)
                · refine Ew_of (pcₚ := 160) (fun _ => x_aload_n rfl (rk_o (lc149_0) rfl rfl)) ?_
                  refine v_g H (o := 0) (v := I (yc149_0_12)) rfl rfl rfl rfl rfl (congrArg (fun z : Int => I z) ((eyc149_0_12) : F_c149 0 12 = yc149_0_12)) ?_
                  refine Ew_of (pcₚ := 165) (fun _ => x_istore rfl) ?_
                  refine Ew_of (pcₚ := 168) (fun _ => x_iinc (len := 3) rfl (rk_o (rk_o (lc149_5) rfl rfl) rfl rfl)) ?_
                  refine Ew_of (pcₚ := 13) (fun _ => x_goto rfl rfl) ?_
                  exact ih13 _ (msE hm13 q_31 (q_34 b19)) _ _ _ _ _ _ _ _ (yc149_0_12) ((x13_5 + 1)) (rk_o (rk_o (rk_o (lc149_0) rfl rfl) rfl rfl) rfl rfl) (rk_o (rk_s) rfl rfl) (rk_s) H O (SD_trans (hD_13) hD_c124 (any_subA (by decide +kernel))) (SD_trans (hN_13) hN_c124 (any_subA (by decide +kernel))) (SF_trans (SF_trans (SF_trans (SF_trans (hS_13) (SF_gluc (ι := oz_D5clsl_5) oz_D5cls_35 hS22 eF22 (by decide +kernel)) (any_sub (lₚ := []) (by decide +kernel))) (SF_gluc (ι := oz_D5clsl_13) oz_D5cls_47 hS28 eF28 (by decide +kernel)) (any_sub (lₚ := [(0, 8), (0, 9), (0, 10), (0, 12)]) (by decide +kernel))) hS_c124 (any_sub (by decide +kernel))) hS_c149 (any_sub (by decide +kernel))) (SA_trans (SA_trans (SA_trans (SA_trans (hA_13) (SA_gluc (ι := oz_D5clsl_5) oz_D5cls_35 hA22 eA22 (by decide +kernel)) (any_subA (lₚ := []) (by decide +kernel))) (SA_gluc (ι := oz_D5clsl_13) oz_D5cls_47 hA28 eA28 (by decide +kernel)) (any_subA (lₚ := []) (by decide +kernel))) hA_c124 (any_subA (by decide +kernel))) hA_c149 (any_subA (by decide +kernel))) (((hS_c149 2 0 rfl)).trans (pmc124_4)) (mc124_4) (emc124_4) (yc124_2_1) (((hS_c149 2 1 rfl).trans (eyc124_2_1)))  (show inr (yc149_0_12) from q_22 r36) (show inr ((x13_5 + 1)) from q_3013 b19 j13_2 jc149_4 r4) (show (0) ≤ ((x13_5 + 1)) from q_29 j13_2) (show ((x13_5 + 1)) ≤ (0) ∨ ((x13_5 + 1)) ≤ ((y10_0_5)) from q_33 b19) (show 0 ≤ (yc149_0_12) ∧ (yc149_0_12) ≤ (y10_0_5) from q_3012 b37 j13_4 jc149_5) (show 0 ≤ (yc124_2_1) ∧ (yc124_2_1) ≤ (mc124_4) ∧ (mc124_4) ≤ 65536 from jc149_2) (show (yc124_2_1) ≤ (a3) from jc149_3) (show 0 ≤ (y10_0_5) ∧ (y10_0_5) ≤ (n3) from jc149_4) rfl
                · refine Ew_of (pcₚ := 158) (fun _ => x_iload rfl rk_s) ?_
                  exact w_ireturn rfl (k (tc149_0) _ _ _ _ _ _ _ H O (cD_c124) (cN_c124) (cF_c149) (cA_c149) (((hS_c149 2 0 rfl)).trans (pmc124_4)) (mc124_4) (emc124_4) (yc124_2_1) (((hS_c149 2 1 rfl).trans (eyc124_2_1))) (show inr (tc149_0) from jc149_0) (show 0 ≤ (tc149_0) ∧ (tc149_0) ≤ 11 from jc149_1) (show 0 ≤ (yc124_2_1) ∧ (yc124_2_1) ≤ (mc124_4) ∧ (mc124_4) ≤ 65536 from jc149_2))
              refine Ew_of (pcₚ := 128) (fun _ => x_iload rfl rk_s) ?_
              refine w_ifeq (t := 136) rfl rfl (show inr (tc124_0) from jc124_0) (fun b38 => ?_) (fun b38 => ?_)
              · refine Ew_of (pcₚ := 137) (fun _ => x_aload_n rfl (rk_o (lc124_0) rfl rfl)) ?_
                refine Ew_of (pcₚ := 138) (fun _ => x_aload_n rfl (rk_o (lc124_0) rfl rfl)) ?_
                refine v_g H (o := 0) (v := I (yc124_0_12)) rfl rfl rfl rfl rfl (congrArg (fun z : Int => I z) ((eyc124_0_12) : F_c124 0 12 = yc124_0_12)) ?_
                refine Ew_of (pcₚ := 143) (fun _ => x_iload rfl (rk_o (lc124_4) rfl rfl)) ?_
                refine Ew_of (pcₚ := 145) (fun _ => x_bipush (z := 6) rfl (by decide)) ?_
                refine w_iadd rfl ?_
                refine v_inv H (o := 0) rfl rfl rfl rfl rfl rfl (by rfl) (C230 (D := puc 537396736 D_c124) (N := puc 537396736 N_c124) (HW_subc H oz_D5cls_41 oz_D5cls_47) (pf_c124_0_4) (pf_c124_0_6) (pmc124_4) (n3) ((congrArg (fun q : Nat => (q : Int)) (mN_c124 3 rfl)).trans (en3)) (mc124_4) (emc124_4) (y10_0_5) ((((((hS_c124 0 5 rfl).trans ((show F28 0 5 = F22 0 5 from (eF28 0 5).trans (hS28 0 5 rfl)))).trans ((show F22 0 5 = F_13 0 5 from (eF22 0 5)))).trans (hS_13 0 5 rfl)).trans ((eF10 0 5).trans ey10_0_5))) (y28_0_8) (((hS_c124 0 8 rfl).trans ((eF28 0 8).trans ey28_0_8))) (y28_0_10) (((hS_c124 0 10 rfl).trans ((eF28 0 10).trans ey28_0_10))) (yc124_0_12) ((eyc124_0_12)) (yc124_2_1) ((eyc124_2_1)) (show inr (yc124_0_12) from q_22 r34) (show inr ((x13_4 + 6)) from q_3017 b21 j13_4 jc124_4 r4) (show 0 ≤ (y10_0_5) ∧ (y10_0_5) ≤ (n3) ∧ (n3) ≤ 65536 from q_3011 h1 jc124_4) (show 0 ≤ (yc124_0_12) ∧ (yc124_0_12) ≤ (y10_0_5) from q_3016 b38 j13_4 jc124_5) (show 0 ≤ (yc124_2_1) ∧ (yc124_2_1) ≤ (mc124_4) ∧ (mc124_4) ≤ 65536 from jc124_2) (show 0 ≤ (y28_0_10) ∧ (y28_0_10) ≤ (yc124_2_1) from q_3015 b38 jc124_5) (show 0 ≤ ((x13_4 + 6)) from q_3014 j13_4) (show andI ((y28_0_8)) 8 = 0 ∨ ((x13_4 + 6)) + 8 ≤ (n3) by omega) (fun z39 σ39 F39ₚ A39ₚ Hₚ Oₚ hS39 hA39 y39_0_12 ey39_0_12 pz39_0 pz39_1 pz39_2 => ⟨rfl, ?_⟩))
                refine v_backc (c := c_c124) (s := s_c124) H oz_D5cls_41 oz_D5cls_47 Hₚ Oₚ (fun F39 A39 H Oₚ eF39 eA39 => ?_)
                have O := OUT_trans O Oₚ
                -- Tokens.unpackEnd
                have cF39 : SF oz_D5clsl_11 F F39 := SF_trans (cF_c124) (SF_gluc (ι := oz_D5clsl_13) oz_D5cls_47 hS39 eF39 (by decide +kernel)) (any_sub (lₚ := [(0, 12)]) (by decide +kernel))
                have mF39 := SFm_of cF39 oz_D5cls_45
                have cA39 : SA oz_D5clsl_12 A A39 := SA_trans (cA_c124) (SA_gluc (ι := oz_D5clsl_13) oz_D5cls_47 hA39 eA39 (by decide +kernel)) (any_subA (lₚ := []) (by decide +kernel))
                have mA39 := SAm_of cA39 oz_D5cls_46
                have r40 : (-2147483648 : Int) ≤ y39_0_12 ∧ y39_0_12 ≤ 2147483647 := rngE (show (-2147483648 : Int) ≤ F39 0 12 ∧ F39 0 12 ≤ 2147483647 from H.krg 0 12 (ltn len_V226_Row_Row_oz_D5cls rfl)) (show F39 0 12 = y39_0_12 from ((eF39 0 12).trans ey39_0_12))
                exact hc149 (z39) _ _ _ _  (rk_o (lc124_0) rfl rfl) (rk_o (lc124_5) rfl rfl) H O (SF_trans (SF_refl) (SF_gluc (ι := oz_D5clsl_13) oz_D5cls_47 hS39 eF39 (by decide +kernel)) (any_sub (lₚ := [(0, 12)]) (by decide +kernel))) (SA_trans (SA_refl) (SA_gluc (ι := oz_D5clsl_13) oz_D5cls_47 hA39 eA39 (by decide +kernel)) (any_subA (lₚ := []) (by decide +kernel)))   (y39_0_12) (((eF39 0 12).trans ey39_0_12))  (show inr (z39) from pz39_0) (show 0 ≤ (z39) ∧ (z39) ≤ 11 from pz39_1) (show 0 ≤ (yc124_2_1) ∧ (yc124_2_1) ≤ (mc124_4) ∧ (mc124_4) ≤ 65536 from jc124_2) (show (yc124_2_1) ≤ (a3) from jc124_3) (show 0 ≤ (y10_0_5) ∧ (y10_0_5) ≤ (n3) from jc124_4) (show (z39) = 0 → (x13_4) + 4 ≤ (y39_0_12) ∧ (y39_0_12) ≤ (y10_0_5) by omega)
              · refine Ew_of (pcₚ := 133) (fun _ => x_iload rfl rk_s) ?_
                refine Ew_of (pcₚ := 149) (fun _ => x_goto rfl rfl) ?_
                exact hc149 (tc124_0) _ _ _ _  (rk_o (lc124_0) rfl rfl) (rk_o (lc124_5) rfl rfl) H O (SF_refl) (SA_refl)   (yc124_0_12) ((eyc124_0_12))  (show inr (tc124_0) from jc124_0) (show 0 ≤ (tc124_0) ∧ (tc124_0) ≤ 11 from q_3018 jc124_1) (show 0 ≤ (yc124_2_1) ∧ (yc124_2_1) ≤ (mc124_4) ∧ (mc124_4) ≤ 65536 from jc124_2) (show (yc124_2_1) ≤ (a3) from jc124_3) (show 0 ≤ (y10_0_5) ∧ (y10_0_5) ≤ (n3) from jc124_4) (show (tc124_0) = 0 → (x13_4) + 4 ≤ (yc124_0_12) ∧ (yc124_0_12) ≤ (y10_0_5) by omega)
            refine Ew_of (pcₚ := 108) (fun _ => x_iload rfl rk_s) ?_
            refine w_ifeq (t := 116) rfl rfl (show inr (z28) from pz28_0) (fun b41 => ?_) (fun b41 => ?_)
            · refine Ew_of (pcₚ := 117) (fun _ => x_aload_n rfl (rk_o (l13_0) rfl rfl)) ?_
              refine Ew_of (pcₚ := 118) (fun _ => x_aload_n rfl (rk_o (l13_0) rfl rfl)) ?_
              refine v_g H (o := 0) (v := I (y28_0_12)) rfl rfl rfl rfl rfl (congrArg (fun z : Int => I z) (((eF28 0 12).trans ey28_0_12) : F28 0 12 = y28_0_12)) ?_
              refine v_inv H (o := 0) rfl rfl rfl rfl rfl rfl (by rfl) (C228 (D := puc 211450367313408 D_13) (N := puc 211450367313408 N_13) (HW_subc H oz_D5cls_42 oz_D5cls_48) (((((show F28 0 4 = F22 0 4 from (eF28 0 4).trans (hS28 0 4 rfl))).trans ((show F22 0 4 = F_13 0 4 from (eF22 0 4))))).trans (pf_13_0_4)) (((((show F28 0 6 = F22 0 6 from (eF28 0 6).trans (hS28 0 6 rfl))).trans ((show F22 0 6 = F_13 0 6 from (eF22 0 6))))).trans (pf_13_0_6)) (((((show F28 2 0 = F22 2 0 from (eF28 2 0).trans (hS28 2 0 rfl))).trans ((show F22 2 0 = F_13 2 0 from (eF22 2 0))))).trans (pm13_4)) ((mF28 0 1 rfl).trans ((pf5).trans (congrArg (fun q : Nat => (q : Int)) (mD_13 5 rfl).symm))) ((mF28 5 0 rfl).trans ((pf6).trans (congrArg (fun q : Nat => (q : Int)) (mD_13 6 rfl).symm))) (n3) ((congrArg (fun q : Nat => (q : Int)) (mN_13 3 rfl)).trans (en3)) (m13_4) (em13_4) (n6) ((congrArg (fun q : Nat => (q : Int)) (mN_13 6 rfl)).trans (en6)) (y10_0_5) ((((((show F28 0 5 = F22 0 5 from (eF28 0 5).trans (hS28 0 5 rfl))).trans ((show F22 0 5 = F_13 0 5 from (eF22 0 5)))).trans (hS_13 0 5 rfl)).trans ((eF10 0 5).trans ey10_0_5))) (y10_0_7) ((((((show F28 0 7 = F22 0 7 from (eF28 0 7).trans (hS28 0 7 rfl))).trans ((show F22 0 7 = F_13 0 7 from (eF22 0 7)))).trans (hS_13 0 7 rfl)).trans ((eF10 0 7).trans ey10_0_7))) (y28_0_9) (((eF28 0 9).trans ey28_0_9)) (y28_0_10) (((eF28 0 10).trans ey28_0_10)) (y28_0_12) (((eF28 0 12).trans ey28_0_12)) (y13_2_1) (((((show F28 2 1 = F22 2 1 from (eF28 2 1).trans (hS28 2 1 rfl))).trans ((show F22 2 1 = F_13 2 1 from (eF22 2 1)))).trans (ey13_2_1))) (u5_1) (((mF28 5 1 rfl).trans (eu5_1))) (show inr (y28_0_12) from q_22 r32) (show 0 ≤ (y10_0_5) ∧ (y10_0_5) ≤ (n3) ∧ (n3) ≤ 65536 from q_3011 h1 j13_7) (show 0 ≤ (y28_0_12) ∧ (y28_0_12) ≤ (y10_0_5) from q_3022 b41 j13_4 pz28_2) (show 0 ≤ (y13_2_1) ∧ (y13_2_1) ≤ (m13_4) ∧ (m13_4) ≤ 65536 from j13_5) (show 0 ≤ (u5_1) ∧ (u5_1) ≤ (n6) ∧ (n6) ≤ 65536 from h3) (show 0 ≤ (y10_0_7) ∧ (y10_0_7) ≤ 65536 ∧ (y13_2_1) ≤ (y10_0_7) from q_3021 h4 j13_6 pz10_0) (show 0 ≤ (y28_0_10) ∧ (y28_0_10) ≤ (y13_2_1) from q_3020 b41 j13_5 pz28_2) (show 0 ≤ (y28_0_9) ∧ (y28_0_9) ≤ 4194304 from q_3019 b41 pz28_2) (fun z42 σ42 D42ₚ N42ₚ F42ₚ A42ₚ c42 s42 Hₚ Oₚ hD42 hN42 hS42 hA42 pm42_3 m42_3 em42_3 y42_0_12 ey42_0_12 y42_2_1 ey42_2_1 pz42_0 pz42_1 pz42_2 pz42_3 pz42_4 => ⟨rfl, ?_⟩))
              refine v_backMc (c := c_13) (s := s_13) H oz_D5cls_42 oz_D5cls_48 Hₚ Oₚ hD42 oz_D5cls_43 (fun D42 N42 F42 A42 H Oₚ eD42 eN42 eF42 eA42 => ?_)
              have O := OUT_trans O Oₚ
              -- Tokens.unpackBlocks
              have cF42 : SF oz_D5clsl_11 F F42 := SF_trans (cF28) (SF_gluc (ι := oz_D5clsl_14) oz_D5cls_48 hS42 eF42 (by decide +kernel)) (any_sub (lₚ := [(0, 11), (0, 12), (2, 0), (2, 1), (2, 2)]) (by decide +kernel))
              have mF42 := SFm_of cF42 oz_D5cls_45
              have cA42 : SA oz_D5clsl_12 A A42 := SA_trans (cA28) (SA_gluc (ι := oz_D5clsl_14) oz_D5cls_48 hA42 eA42 (by decide +kernel)) (any_subA (lₚ := [4]) (by decide +kernel))
              have mA42 := SAm_of cA42 oz_D5cls_46
              have cD42 : SD oz_D5clsl_12 D D42 := SD_trans (cD_13) (SD_gluc (ι := oz_D5clsl_14) oz_D5cls_48 hD42 eD42 (by decide +kernel)) (any_subA (lₚ := [4]) (by decide +kernel))
              have mD42 := SDm_of cD42 oz_D5cls_46
              have cN42 : SD oz_D5clsl_12 N N42 := SD_trans (cN_13) (SD_gluc (ι := oz_D5clsl_14) oz_D5cls_48 hN42 eN42 (by decide +kernel)) (any_subA (lₚ := [4]) (by decide +kernel))
              have mN42 := SDm_of cN42 oz_D5cls_46
              have pf42_0_4 : F42 0 4 = (D42 3 : Int) := ((show F42 0 4 = F28 0 4 from (eF42 0 4).trans (hS42 0 4 rfl))).trans ((((((show F28 0 4 = F22 0 4 from (eF28 0 4).trans (hS28 0 4 rfl))).trans ((show F22 0 4 = F_13 0 4 from (eF22 0 4))))).trans (pf_13_0_4)).trans (congrArg (fun q : Nat => (q : Int)) ((show D42 3 = D_13 3 from (eD42 3).trans (hD42 1 rfl))).symm))
              have pf42_0_6 : F42 0 6 = (D42 2 : Int) := ((show F42 0 6 = F28 0 6 from (eF42 0 6).trans (hS42 0 6 rfl))).trans ((((((show F28 0 6 = F22 0 6 from (eF28 0 6).trans (hS28 0 6 rfl))).trans ((show F22 0 6 = F_13 0 6 from (eF22 0 6))))).trans (pf_13_0_6)).trans (congrArg (fun q : Nat => (q : Int)) ((show D42 2 = D_13 2 from (eD42 2).trans (hD42 2 rfl))).symm))
              have pf42_2_0 : F42 2 0 = (D42 4 : Int) := (eF42 2 0).trans (pm42_3.trans (congrArg (fun q : Nat => (q : Int)) (eD42 4).symm))
              have r43 : (0 : Int) ≤ m42_3 ∧ m42_3 ≤ 1000000 := nleE (H.nle 4 (ltn len_V226_Row_Row_oz_D5cls rfl)) (show (N42 4 : Int) = m42_3 from (congrArg (fun q : Nat => (q : Int)) (eN42 4)).trans em42_3)
              have r44 : (-2147483648 : Int) ≤ y42_0_12 ∧ y42_0_12 ≤ 2147483647 := rngE (show (-2147483648 : Int) ≤ F42 0 12 ∧ F42 0 12 ≤ 2147483647 from H.krg 0 12 (ltn len_V226_Row_Row_oz_D5cls rfl)) (show F42 0 12 = y42_0_12 from ((eF42 0 12).trans ey42_0_12))
              have r45 : (-2147483648 : Int) ≤ y42_2_1 ∧ y42_2_1 ≤ 2147483647 := rngE (show (-2147483648 : Int) ≤ F42 2 1 ∧ F42 2 1 ≤ 2147483647 from H.krg 2 1 (ltn len_V226_Row_Row_oz_D5cls rfl)) (show F42 2 1 = y42_2_1 from ((eF42 2 1).trans ey42_2_1))
              exact hc124 (z42) _ _ _ _ _ _ _ _  ((rk_o (l13_0) rfl rfl).trans (congrArg (fun q : Nat => some (Value.ref q)) (((show D42 0 = D_13 0 from (eD42 0).trans (hD42 0 rfl)))).symm)) (rk_o (l13_4) rfl rfl) (rk_o (l13_5) rfl rfl) H O (SD_trans (SD_refl) (SD_gluc (ι := oz_D5clsl_14) oz_D5cls_48 hD42 eD42 (by decide +kernel)) (any_subA (lₚ := [4]) (by decide +kernel))) (SD_trans (SD_refl) (SD_gluc (ι := oz_D5clsl_14) oz_D5cls_48 hN42 eN42 (by decide +kernel)) (any_subA (lₚ := [4]) (by decide +kernel))) (SF_trans (SF_refl) (SF_gluc (ι := oz_D5clsl_14) oz_D5cls_48 hS42 eF42 (by decide +kernel)) (any_sub (lₚ := [(0, 11), (0, 12), (2, 0), (2, 1), (2, 2)]) (by decide +kernel))) (SA_trans (SA_refl) (SA_gluc (ι := oz_D5clsl_14) oz_D5cls_48 hA42 eA42 (by decide +kernel)) (any_subA (lₚ := [4]) (by decide +kernel))) (pf42_2_0) (m42_3) ((congrArg (fun q : Nat => (q : Int)) (eN42 4)).trans em42_3) (y42_0_12) (((eF42 0 12).trans ey42_0_12)) (y42_2_1) (((eF42 2 1).trans ey42_2_1))  (show inr (z42) from pz42_0) (show 0 ≤ (z42) ∧ (z42) ≤ 9 from pz42_1) (show 0 ≤ (y42_2_1) ∧ (y42_2_1) ≤ (m42_3) ∧ (m42_3) ≤ 65536 from pz42_2) (show (y42_2_1) ≤ (a3) from q_3023 pz10_0 pz42_3) (show 0 ≤ (y10_0_5) ∧ (y10_0_5) ≤ (n3) from j13_7) (show (z42) = 0 → (x13_4) + 4 ≤ (y42_0_12) ∧ (y42_0_12) ≤ (y10_0_5) ∧ 0 ≤ (y28_0_10) ∧ (y28_0_10) ≤ (y42_2_1) by omega) (show (z42) = 0 → andI ((y28_0_8)) 8 = 0 ∨ (x13_4) + 14 ≤ (y10_0_5) by omega)
            · refine Ew_of (pcₚ := 113) (fun _ => x_iload rfl rk_s) ?_
              refine Ew_of (pcₚ := 124) (fun _ => x_goto rfl rfl) ?_
              exact hc124 (z28) _ _ _ _ _ _ _ _  (rk_o (l13_0) rfl rfl) (rk_o (l13_4) rfl rfl) (rk_o (l13_5) rfl rfl) H O (SD_refl) (SD_refl) (SF_refl) (SA_refl) (((((show F28 2 0 = F22 2 0 from (eF28 2 0).trans (hS28 2 0 rfl))).trans ((show F22 2 0 = F_13 2 0 from (eF22 2 0))))).trans (pm13_4)) (m13_4) (em13_4) (y28_0_12) (((eF28 0 12).trans ey28_0_12)) (y13_2_1) (((((show F28 2 1 = F22 2 1 from (eF28 2 1).trans (hS28 2 1 rfl))).trans ((show F22 2 1 = F_13 2 1 from (eF22 2 1)))).trans (ey13_2_1)))  (show inr (z28) from pz28_0) (show 0 ≤ (z28) ∧ (z28) ≤ 9 from q_3024 pz28_1) (show 0 ≤ (y13_2_1) ∧ (y13_2_1) ≤ (m13_4) ∧ (m13_4) ≤ 65536 from j13_5) (show (y13_2_1) ≤ (a3) from j13_6) (show 0 ≤ (y10_0_5) ∧ (y10_0_5) ≤ (n3) from j13_7) (show (z28) = 0 → (x13_4) + 4 ≤ (y28_0_12) ∧ (y28_0_12) ≤ (y10_0_5) ∧ 0 ≤ (y28_0_10) ∧ (y28_0_10) ≤ (y13_2_1) by omega) (show (z28) = 0 → andI ((y28_0_8)) 8 = 0 ∨ (x13_4) + 14 ≤ (y10_0_5) from pz28_3)
          · refine Ew_of (pcₚ := 69) (fun _ => x_aload_n rfl l13_0) ?_
            refine v_g H (o := 0) (v := .ref (D_13 3)) rfl rfl rfl rfl rfl (vrf ((((show F22 0 4 = F_13 0 4 from (eF22 0 4)))).trans (pf_13_0_4))) ?_
            refine Ew_of (pcₚ := 74) (fun _ => x_iload rfl l13_4) ?_
            refine Ew_of (pcₚ := 75) (fun _ => x_aload_n rfl l13_0) ?_
            refine v_g H (o := 0) (v := I (y10_0_5)) rfl rfl rfl rfl rfl (congrArg (fun z : Int => I z) (((((show F22 0 5 = F_13 0 5 from (eF22 0 5))).trans (hS_13 0 5 rfl)).trans ((eF10 0 5).trans ey10_0_5)) : F22 0 5 = y10_0_5)) ?_
            refine w_stat25 rfl rfl (by rfl) (C44_Br (D := puc 3 D_13) (N := puc 3 N_13) (HW_subc H oz_D5cls_44 oz_D5cls_35) (n3) ((congrArg (fun q : Nat => (q : Int)) (mN_13 3 rfl)).trans (en3)) (show inr (x13_4) from j13_0) (show inr (y10_0_5) from q_275 j13_7 r11) (show 0 ≤ (x13_4) ∧ 0 ≤ (y10_0_5) ∧ (y10_0_5) ≤ (n3) ∧ (n3) ≤ 65536 ∧ (x13_4) ≤ 200000 from q_3009 b21 h1 j13_4 j13_7 r4) (fun z46 σ46 F46ₚ A46ₚ Hₚ Oₚ hS46 hA46 pz46_0 pz46_1 => ⟨rfl, ?_⟩))
            refine v_backc (c := c_13) (s := s_13) H oz_D5cls_44 oz_D5cls_35 Hₚ Oₚ (fun F46 A46 H Oₚ eF46 eA46 => ?_)
            have O := OUT_trans O Oₚ
            -- PackHouse.afterSpare
            have cF46 : SF oz_D5clsl_11 F F46 := SF_trans (cF22) (SF_gluc (ι := oz_D5clsl_5) oz_D5cls_35 hS46 eF46 (by decide +kernel)) (any_sub (lₚ := []) (by decide +kernel))
            have mF46 := SFm_of cF46 oz_D5cls_45
            have cA46 : SA oz_D5clsl_12 A A46 := SA_trans (cA22) (SA_gluc (ι := oz_D5clsl_5) oz_D5cls_35 hA46 eA46 (by decide +kernel)) (any_subA (lₚ := []) (by decide +kernel))
            have mA46 := SAm_of cA46 oz_D5cls_46
            refine Ew_of (pcₚ := 83) (fun _ => x_istore rfl) ?_
            refine Ew_of (pcₚ := 85) (fun _ => x_iload rfl rk_s) ?_
            refine w_ifge (t := 165) rfl rfl (show inr (z46) from pz46_0) (fun b47 => ?_) (fun b47 => ?_)
            · refine Ew_of (pcₚ := 168) (fun _ => x_iinc (len := 3) rfl (rk_o (l13_5) rfl rfl)) ?_
              refine Ew_of (pcₚ := 13) (fun _ => x_goto rfl rfl) ?_
              exact ih13 _ (msE hm13 q_31 (q_34 b19)) _ _ _ _ _ _ _ _ (z46) ((x13_5 + 1)) (rk_o (rk_o (l13_0) rfl rfl) rfl rfl) (rk_o (rk_s) rfl rfl) (rk_s) H O (hD_13) (hN_13) (SF_trans (SF_trans (hS_13) (SF_gluc (ι := oz_D5clsl_5) oz_D5cls_35 hS22 eF22 (by decide +kernel)) (any_sub (lₚ := []) (by decide +kernel))) (SF_gluc (ι := oz_D5clsl_5) oz_D5cls_35 hS46 eF46 (by decide +kernel)) (any_sub (lₚ := []) (by decide +kernel))) (SA_trans (SA_trans (hA_13) (SA_gluc (ι := oz_D5clsl_5) oz_D5cls_35 hA22 eA22 (by decide +kernel)) (any_subA (lₚ := []) (by decide +kernel))) (SA_gluc (ι := oz_D5clsl_5) oz_D5cls_35 hA46 eA46 (by decide +kernel)) (any_subA (lₚ := []) (by decide +kernel))) (((((show F46 2 0 = F22 2 0 from (eF46 2 0))).trans ((show F22 2 0 = F_13 2 0 from (eF22 2 0))))).trans (pm13_4)) (m13_4) (em13_4) (y13_2_1) (((((show F46 2 1 = F22 2 1 from (eF46 2 1))).trans ((show F22 2 1 = F_13 2 1 from (eF22 2 1)))).trans (ey13_2_1)))  (show inr (z46) from pz46_0) (show inr ((x13_5 + 1)) from q_3013 b19 j13_2 j13_7 r4) (show (0) ≤ ((x13_5 + 1)) from q_29 j13_2) (show ((x13_5 + 1)) ≤ (0) ∨ ((x13_5 + 1)) ≤ ((y10_0_5)) from q_33 b19) (show 0 ≤ (z46) ∧ (z46) ≤ (y10_0_5) from q_3025 b47 j13_7 pz46_1) (show 0 ≤ (y13_2_1) ∧ (y13_2_1) ≤ (m13_4) ∧ (m13_4) ≤ 65536 from j13_5) (show (y13_2_1) ≤ (a3) from j13_6) (show 0 ≤ (y10_0_5) ∧ (y10_0_5) ≤ (n3) from j13_7) rfl
            · refine Ew_of (pcₚ := 89) (fun _ => x_aload_n rfl (rk_o (l13_0) rfl rfl)) ?_
              refine Ew_of (pcₚ := 90) (fun _ => x_iconst rfl) ?_
              refine Ew_of (pcₚ := 91) (fun _ => x_aload_n rfl (rk_o (l13_0) rfl rfl)) ?_
              refine v_g H (o := 0) (v := I (y10_0_5)) rfl rfl rfl rfl rfl (congrArg (fun z : Int => I z) ((((((show F46 0 5 = F22 0 5 from (eF46 0 5))).trans ((show F22 0 5 = F_13 0 5 from (eF22 0 5)))).trans (hS_13 0 5 rfl)).trans ((eF10 0 5).trans ey10_0_5)) : F46 0 5 = y10_0_5)) ?_
              have r48 : (-2147483648 : Int) ≤ F_13 0 12 ∧ F_13 0 12 ≤ 2147483647 := rngE (show (-2147483648 : Int) ≤ F46 0 12 ∧ F46 0 12 ≤ 2147483647 from H.krg 0 12 (ltn len_V226_Row_Row_oz_D5cls rfl)) (show F46 0 12 = F_13 0 12 from (((show F46 0 12 = F22 0 12 from (eF46 0 12))).trans ((show F22 0 12 = F_13 0 12 from (eF22 0 12)))))
              refine v_inv H (o := 0) rfl rfl rfl rfl rfl rfl (by rfl) (C221 (D := puc 0 D_13) (N := puc 0 N_13) (HW_subc H oz_D5cls_38 oz_D5cls_10) (F_13 0 12) ((((show F46 0 12 = F22 0 12 from (eF46 0 12))).trans ((show F22 0 12 = F_13 0 12 from (eF22 0 12))))) (show inr (1) from q_23) (show inr (y10_0_5) from q_275 j13_7 r11) (fun z49 σ49 F49ₚ A49ₚ Hₚ Oₚ hS49 hA49 y49_0_12 ey49_0_12 pz49_0 pz49_1 pz49_2 => ⟨rfl, ?_⟩))
              refine v_backc (c := c_13) (s := s_13) H oz_D5cls_38 oz_D5cls_10 Hₚ Oₚ (fun F49 A49 H Oₚ eF49 eA49 => ?_)
              have O := OUT_trans O Oₚ
              -- Tokens.fail
              have cF49 : SF oz_D5clsl_11 F F49 := SF_trans (cF46) (SF_gluc (ι := oz_D5clsl_3) oz_D5cls_10 hS49 eF49 (by decide +kernel)) (any_sub (lₚ := [(0, 12)]) (by decide +kernel))
              have mF49 := SFm_of cF49 oz_D5cls_45
              have cA49 : SA oz_D5clsl_12 A A49 := SA_trans (cA46) (SA_gluc (ι := oz_D5clsl_3) oz_D5cls_10 hA49 eA49 (by decide +kernel)) (any_subA (lₚ := []) (by decide +kernel))
              have mA49 := SAm_of cA49 oz_D5cls_46
              have r50 : (-2147483648 : Int) ≤ y49_0_12 ∧ y49_0_12 ≤ 2147483647 := rngE (show (-2147483648 : Int) ≤ F49 0 12 ∧ F49 0 12 ≤ 2147483647 from H.krg 0 12 (ltn len_V226_Row_Row_oz_D5cls rfl)) (show F49 0 12 = y49_0_12 from ((eF49 0 12).trans ey49_0_12))
              exact w_ireturn rfl (k (z49) _ _ _ _ _ _ _ H O (cD_13) (cN_13) (cF49) (cA49) ((((((show F49 2 0 = F46 2 0 from (eF49 2 0))).trans ((show F46 2 0 = F22 2 0 from (eF46 2 0)))).trans ((show F22 2 0 = F_13 2 0 from (eF22 2 0))))).trans (pm13_4)) (m13_4) (em13_4) (y13_2_1) ((((((show F49 2 1 = F46 2 1 from (eF49 2 1))).trans ((show F46 2 1 = F22 2 1 from (eF46 2 1)))).trans ((show F22 2 1 = F_13 2 1 from (eF22 2 1)))).trans (ey13_2_1))) (show inr (z49) from pz49_0) (show 0 ≤ (z49) ∧ (z49) ≤ 11 from q_3005 pz49_1) (show 0 ≤ (y13_2_1) ∧ (y13_2_1) ≤ (m13_4) ∧ (m13_4) ≤ 65536 from j13_5))
        · refine Ew_of (pcₚ := 43) (fun _ => x_aload_n rfl l13_0) ?_
          refine Ew_of (pcₚ := 44) (fun _ => x_iconst rfl) ?_
          refine Ew_of (pcₚ := 45) (fun _ => x_aload_n rfl l13_0) ?_
          refine v_g H (o := 0) (v := I (y10_0_5)) rfl rfl rfl rfl rfl (congrArg (fun z : Int => I z) (((hS_13 0 5 rfl).trans ((eF10 0 5).trans ey10_0_5)) : F_13 0 5 = y10_0_5)) ?_
          have r51 : (-2147483648 : Int) ≤ F_13 0 12 ∧ F_13 0 12 ≤ 2147483647 := H.krg 0 12 (ltn len_V226_Row_Row_oz_D5cls rfl)
          refine v_inv H (o := 0) rfl rfl rfl rfl rfl rfl (by rfl) (C221 (D := puc 0 D_13) (N := puc 0 N_13) (HW_subc H oz_D5cls_38 oz_D5cls_10) (F_13 0 12) (rfl) (show inr (1) from q_23) (show inr (y10_0_5) from q_275 j13_7 r11) (fun z52 σ52 F52ₚ A52ₚ Hₚ Oₚ hS52 hA52 y52_0_12 ey52_0_12 pz52_0 pz52_1 pz52_2 => ⟨rfl, ?_⟩))
          refine v_backc (c := c_13) (s := s_13) H oz_D5cls_38 oz_D5cls_10 Hₚ Oₚ (fun F52 A52 H Oₚ eF52 eA52 => ?_)
          have O := OUT_trans O Oₚ
          -- Tokens.fail
          have cF52 : SF oz_D5clsl_11 F F52 := SF_trans (cF_13) (SF_gluc (ι := oz_D5clsl_3) oz_D5cls_10 hS52 eF52 (by decide +kernel)) (any_sub (lₚ := [(0, 12)]) (by decide +kernel))
          have mF52 := SFm_of cF52 oz_D5cls_45
          have cA52 : SA oz_D5clsl_12 A A52 := SA_trans (cA_13) (SA_gluc (ι := oz_D5clsl_3) oz_D5cls_10 hA52 eA52 (by decide +kernel)) (any_subA (lₚ := []) (by decide +kernel))
          have mA52 := SAm_of cA52 oz_D5cls_46
          have r53 : (-2147483648 : Int) ≤ y52_0_12 ∧ y52_0_12 ≤ 2147483647 := rngE (show (-2147483648 : Int) ≤ F52 0 12 ∧ F52 0 12 ≤ 2147483647 from H.krg 0 12 (ltn len_V226_Row_Row_oz_D5cls rfl)) (show F52 0 12 = y52_0_12 from ((eF52 0 12).trans ey52_0_12))
          exact w_ireturn rfl (k (z52) _ _ _ _ _ _ _ H O (cD_13) (cN_13) (cF52) (cA52) ((((show F52 2 0 = F_13 2 0 from (eF52 2 0)))).trans (pm13_4)) (m13_4) (em13_4) (y13_2_1) ((((show F52 2 1 = F_13 2 1 from (eF52 2 1))).trans (ey13_2_1))) (show inr (z52) from pz52_0) (show 0 ≤ (z52) ∧ (z52) ≤ 11 from q_3005 pz52_1) (show 0 ≤ (y13_2_1) ∧ (y13_2_1) ≤ (m13_4) ∧ (m13_4) ≤ 65536 from j13_5))
