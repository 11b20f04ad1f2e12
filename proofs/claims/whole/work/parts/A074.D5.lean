abbrev V213 : vV := []
theorem C213 {σE : rS} {D N : Nat → Nat} {F : hF} {A : hA} {d c s : Nat} {Q : wQ} (H : HW V213 σE D N F A) {a1 : Int} (h0 : inr (a1)) (k : ∀ (z : Int) (σ : rS) (Fₚ : hF) (Aₚ : hA), HW V213 σ D N Fₚ Aₚ → OUT (V213).length D N σE c s D N σ c s → SF [] F Fₚ → SA [] A Aₚ → ((z) = 0 ∨ (z) = 1) → ((z) = 1 ∧ andI ((a1)) (-62) = 64 ∨ (z) = 0 ∧ andI ((a1)) (-62) ≠ 64) → Q (some (I z)) σ c s) : Ew 213 (d + 0) 0 (rargs 0 [I a1]) [] σE c s Q := by
  have O := OUT_refl (n := (V213).length) (D := D) (N := N) (σ := σE) (c := c) (s := s)
  have HE := H
  refine Ew_of (pcₚ := 1) (fun _ => x_iload_n rfl rfl) ?_
  refine Ew_of (pcₚ := 3) (fun _ => x_bipush (z := -62) rfl (by decide)) ?_
  refine w_iandE rfl (show inr (a1) from h0) (show inr ((-62)) from q_3255) (fun z1 gz1 gaz1 gbz1 gez1 => ?_)
  refine Ew_of (pcₚ := 6) (fun _ => x_bipush (z := 64) rfl (by decide)) ?_
  refine w_icmpne (t := 13) rfl rfl (show inr (z1) from gz1) (show inr (64) from q_151) (fun b2 => ?_) (fun b2 => ?_)
  · refine Ew_of (pcₚ := 14) (fun _ => x_iconst rfl) ?_
    exact w_ireturn rfl (k (0) _ _ _ H O (SF_refl) (SA_refl) (show (0) = 0 ∨ (0) = 1 by first | exact q_45 | omega) (show (0) = 1 ∧ andI (a1) (-62) = 64 ∨ (0) = 0 ∧ andI (a1) (-62) ≠ 64 by omega))
  · refine Ew_of (pcₚ := 10) (fun _ => x_iconst rfl) ?_
    refine Ew_of (pcₚ := 14) (fun _ => x_goto rfl rfl) ?_
    exact w_ireturn rfl (k (1) _ _ _ H O (SF_refl) (SA_refl) (show (1) = 0 ∨ (1) = 1 by first | exact q_49 | omega) (show (1) = 1 ∧ andI (a1) (-62) = 64 ∨ (1) = 0 ∧ andI (a1) (-62) ≠ 64 by first | exact q_3256 b2 gez1 | omega))
abbrev V227 : vV := [(0, 11, [(4, 0), (4, 0), (4, 0), (4, 0), (4, 0), (0, 0), (4, 0), (0, 0), (0, 0), (0, 0), (0, 0), (0, 0), (0, 0)]), (1, 0, []), (0, 7, [(4, 0), (0, 0), (1, 0), (0, 0), (0, 0)]), (1, 0, [])]
theorem len_V227_oz_D5cls : (V227).length = 4 := by decide +kernel
theorem oz_D5cls_2 : vsub V227 V41_Br [1] = true := by decide +kernel
theorem oz_D5cls_3 : vsub V227 V213 [] = true := by decide +kernel
theorem oz_D5cls_4 : vsub V227 V221 [0] = true := by decide +kernel
theorem oz_D5cls_5 : vsub V227 V49_Br [1] = true := by decide +kernel
def oz_D5clsl_0 : List (Nat × Nat) := [(0, 8), (0, 9), (0, 10), (0, 12)]
theorem oz_D5cls_6 : (oz_D5clsl_0).all (fun p => !tbz 5888 (Nat.add (Nat.mul 32 p.1) p.2)) = true := by decide +kernel
def oz_D5clsl_1 : List Nat := []
theorem oz_D5cls_7 : (oz_D5clsl_1).all (fun p => !tbz 0 p) = true := by decide +kernel
def oz_D5clsl_2 : List Nat := [1]
theorem oz_D5cls_8 : okc oz_D5clsl_2 1 = true := by decide +kernel
theorem oz_D5cls_9 : okc oz_D5clsl_1 0 = true := by decide +kernel
def oz_D5clsl_3 : List Nat := [0]
theorem oz_D5cls_10 : okc oz_D5clsl_3 0 = true := by decide +kernel

theorem C227 {σE : rS} {D N : Nat → Nat} {F : hF} {A : hA} {d c s : Nat} {Q : wQ} (H : HW V227 σE D N F A) {a1 : Int} (pf1 : F 0 4 = (D 1 : Int)) (pf2 : F 0 6 = (D 2 : Int)) (pf3 : F 2 0 = (D 3 : Int)) (n1 : Int) (en1 : (N 1 : Int) = n1) (n3 : Int) (en3 : (N 3 : Int) = n3) (u0_5 : Int) (eu0_5 : F 0 5 = u0_5) (u0_8 : Int) (eu0_8 : F 0 8 = u0_8) (u0_9 : Int) (eu0_9 : F 0 9 = u0_9) (u0_10 : Int) (eu0_10 : F 0 10 = u0_10) (u0_12 : Int) (eu0_12 : F 0 12 = u0_12) (u2_1 : Int) (eu2_1 : F 2 1 = u2_1) (w1 : Int → Int) (ew1 : A 1 = w1) (h0 : inr (a1)) (h1 : 0 ≤ (u0_5) ∧ (u0_5) ≤ (n1) ∧ (n1) ≤ 65536) (h2 : 0 ≤ (a1) ∧ (a1) + 4 ≤ (u0_5)) (h3 : 0 ≤ (u2_1) ∧ (u2_1) ≤ (n3) ∧ (n3) ≤ 65536) (k : ∀ (z : Int) (σ : rS) (Fₚ : hF) (Aₚ : hA), HW V227 σ D N Fₚ Aₚ → OUT (V227).length D N σE c s D N σ c s → SF [(0, 8), (0, 9), (0, 10), (0, 12)] F Fₚ → SA [] A Aₚ → ∀ y0_8 : Int, Fₚ 0 8 = y0_8 → ∀ y0_9 : Int, Fₚ 0 9 = y0_9 → ∀ y0_10 : Int, Fₚ 0 10 = y0_10 → ∀ y0_12 : Int, Fₚ 0 12 = y0_12 → (inr (z)) → (0 ≤ (z) ∧ (z) ≤ 6) → ((z) = 0 → (a1) + 7 ≤ (y0_12) ∧ (y0_12) ≤ (u0_5) ∧ (y0_10) = (u2_1) ∧ 65536 ≤ (y0_9) ∧ (y0_9) ≤ 4194304) → ((z) = 0 → andI ((y0_8)) 8 = 0 ∨ (a1) + 14 ≤ (u0_5)) → (IMP (nvl (ub8 ((w1))) ((a1)) 4 = 407708164) (THd (ub8 ((w1))) ((u0_5)) ((a1)) ((z)) ((y0_12)) ((y0_8)) ((y0_9)))) → (IMP (nvl (ub8 ((w1))) ((a1)) 4 ≠ 407708164) ((z) = 4 ∧ (y0_12) = (a1))) → Q (some (I z)) σ c s) : Ew 227 (d + 3) 0 (rargs 0 [.ref (D 0), I a1]) [] σE c s Q := by
  have O := OUT_refl (n := (V227).length) (D := D) (N := N) (σ := σE) (c := c) (s := s)
  have HE := H
  have r1 : (-2147483648 : Int) ≤ u0_5 ∧ u0_5 ≤ 2147483647 := rngE (show (-2147483648 : Int) ≤ F 0 5 ∧ F 0 5 ≤ 2147483647 from H.krg 0 5 (ltn len_V227_oz_D5cls rfl)) (show F 0 5 = u0_5 from (eu0_5))
  have r2 : (-2147483648 : Int) ≤ u0_8 ∧ u0_8 ≤ 2147483647 := rngE (show (-2147483648 : Int) ≤ F 0 8 ∧ F 0 8 ≤ 2147483647 from H.krg 0 8 (ltn len_V227_oz_D5cls rfl)) (show F 0 8 = u0_8 from (eu0_8))
  have r3 : (-2147483648 : Int) ≤ u0_9 ∧ u0_9 ≤ 2147483647 := rngE (show (-2147483648 : Int) ≤ F 0 9 ∧ F 0 9 ≤ 2147483647 from H.krg 0 9 (ltn len_V227_oz_D5cls rfl)) (show F 0 9 = u0_9 from (eu0_9))
  have r4 : (-2147483648 : Int) ≤ u0_10 ∧ u0_10 ≤ 2147483647 := rngE (show (-2147483648 : Int) ≤ F 0 10 ∧ F 0 10 ≤ 2147483647 from H.krg 0 10 (ltn len_V227_oz_D5cls rfl)) (show F 0 10 = u0_10 from (eu0_10))
  have r5 : (-2147483648 : Int) ≤ u0_12 ∧ u0_12 ≤ 2147483647 := rngE (show (-2147483648 : Int) ≤ F 0 12 ∧ F 0 12 ≤ 2147483647 from H.krg 0 12 (ltn len_V227_oz_D5cls rfl)) (show F 0 12 = u0_12 from (eu0_12))
  have r6 : (-2147483648 : Int) ≤ u2_1 ∧ u2_1 ≤ 2147483647 := rngE (show (-2147483648 : Int) ≤ F 2 1 ∧ F 2 1 ≤ 2147483647 from H.krg 2 1 (ltn len_V227_oz_D5cls rfl)) (show F 2 1 = u2_1 from (eu2_1))
  have r7 : (0 : Int) ≤ n1 ∧ n1 ≤ 1000000 := nleE (H.nle 1 (ltn len_V227_oz_D5cls rfl)) (show (N 1 : Int) = n1 from en1)
  have r8 : (0 : Int) ≤ n3 ∧ n3 ≤ 1000000 := nleE (H.nle 3 (ltn len_V227_oz_D5cls rfl)) (show (N 3 : Int) = n3 from en3)
  refine Ew_of (pcₚ := 1) (fun _ => x_aload_n rfl rfl) ?_
  refine v_g H (o := 0) (v := .ref (D 1)) rfl rfl rfl rfl rfl (vrf (pf1)) ?_
  refine Ew_of (pcₚ := 5) (fun _ => x_iload_n rfl rfl) ?_
  refine w_stat25 rfl rfl (by rfl) (C41_Br (D := puc 1 D) (N := puc 1 N) (HW_subc H oz_D5cls_2 oz_D5cls_8) (n1) (en1) (w1) (ew1) (show inr (a1) from h0) (show 0 ≤ (a1) ∧ (a1) + 4 ≤ (n1) from q_3257 h1 h2) (fun z9 σ9 F9ₚ A9ₚ Hₚ Oₚ hS9 hA9 pz9_0 pz9_1 => ⟨rfl, ?_⟩))
  refine v_backc (c := c) (s := s) H oz_D5cls_2 oz_D5cls_8 Hₚ Oₚ (fun F9 A9 H Oₚ eF9 eA9 => ?_)
  have O := OUT_trans O Oₚ
  -- PackHouse.word
  have cF9 : SF oz_D5clsl_0 F F9 := SF_trans (SF_refl) (SF_gluc (ι := oz_D5clsl_2) oz_D5cls_8 hS9 eF9 (by decide +kernel)) (any_sub (lₚ := []) (by decide +kernel))
  have mF9 := SFm_of cF9 oz_D5cls_6
  have cA9 : SA oz_D5clsl_1 A A9 := SA_trans (SA_refl) (SA_gluc (ι := oz_D5clsl_2) oz_D5cls_8 hA9 eA9 (by decide +kernel)) (any_subA (lₚ := []) (by decide +kernel))
  have mA9 := SAm_of cA9 oz_D5cls_7
  have hwd := wdm pz9_1
  have hwi := pz9_0
  refine Ew_of (pcₚ := 10) (fun _ => x_ldc (z := 407708164) rfl (by decide)) ?_
  refine w_icmpeq (t := 20) rfl rfl (show inr (z9) from pz9_0) (show inr (407708164) from q_3258) (fun b10 => ?_) (fun b10 => ?_)
  · have hmk : nvl (ub8 ((w1))) ((a1)) 4 = 407708164 := by omega
    refine Ew_of (pcₚ := 21) (fun _ => x_aload_n rfl rfl) ?_
    refine v_g H (o := 0) (v := I (u0_5)) rfl rfl rfl rfl rfl (congrArg (fun z : Int => I z) (((mF9 0 5 rfl).trans (eu0_5)) : F9 0 5 = u0_5)) ?_
    refine Ew_of (pcₚ := 25) (fun _ => x_iload_n rfl rfl) ?_
    refine w_isub rfl ?_
    refine Ew_of (pcₚ := 27) (fun _ => x_iconst rfl) ?_
    refine w_icmpge (t := 40) rfl rfl (show inr ((u0_5 - a1)) from q_3259 h1 h2) (show inr (5) from q_727) (fun b11 => ?_) (fun b11 => ?_)
    · refine Ew_of (pcₚ := 41) (fun _ => x_aload_n rfl rfl) ?_
      refine Ew_of (pcₚ := 42) (fun _ => x_aload_n rfl rfl) ?_
      refine v_g H (o := 0) (v := .ref (D 1)) rfl rfl rfl rfl rfl (vrf ((mF9 0 4 rfl).trans (pf1))) ?_
      refine Ew_of (pcₚ := 46) (fun _ => x_iload_n rfl rfl) ?_
      refine Ew_of (pcₚ := 47) (fun _ => x_iconst rfl) ?_
      refine w_iadd rfl ?_
      refine v_lB H (o := 1) rfl rfl rfl rfl (n := n1) (en1) (show 0 ≤ (a1 + 4) ∧ (a1 + 4) < n1 from q_3260 b11 h1 h2) (fun v12 ev12 qv12 => ?_)
      have ev12 : (w1) ((a1 + 4)) = v12 := (congrFun ((funext (mA9 1 rfl)).trans (ew1)) ((a1 + 4))).symm.trans ev12
      have hvb := ev12
      refine Ew_of (pcₚ := 52) (fun _ => x_sipush (z := 255) rfl (by decide)) ?_
      refine v_and255 rfl ?_
      refine v_p H (o := 0) (z := (v12 % 256)) (v := I ((v12 % 256))) rfl rfl rfl rfl rfl rfl rfl rfl (show (-2147483648 : Int) ≤ (v12 % 256) ∧ (v12 % 256) ≤ 2147483647 from q_3261) (fun σ H Oₚ => ?_)
      have O := OUT_trans O Oₚ
      have cFu13 : SF oz_D5clsl_0 F (updF F9 0 8 ((v12 % 256))) := SF_upd (cF9) rfl
      have mFu13 := SFm_of cFu13 oz_D5cls_6
      have hv3 : (ub8 ((w1))) ((a1) + 4) = ((v12 % 256)) := ub_eq hvb rfl
      have hfr : 0 ≤ ((v12 % 256)) ∧ ((v12 % 256)) ≤ 255 := q_460
      refine Ew_of (pcₚ := 57) (fun _ => x_aload_n rfl rfl) ?_
      refine v_g H (o := 0) (v := I ((v12 % 256))) rfl rfl rfl rfl rfl (congrArg (fun z : Int => I z) (rfl : (updF F9 0 8 ((v12 % 256))) 0 8 = (v12 % 256))) ?_
      refine w_stat24 rfl rfl (by rfl) (C213 (D := puc 0 D) (N := puc 0 N) (HW_subc H oz_D5cls_3 oz_D5cls_9) (show inr ((v12 % 256)) from q_3262 hfr) (fun z14 σ14 F14ₚ A14ₚ Hₚ Oₚ hS14 hA14 pz14_0 pz14_1 => ⟨rretB rfl pz14_0, ?_⟩))
      refine v_backc (c := c) (s := s) H oz_D5cls_3 oz_D5cls_9 Hₚ Oₚ (fun F14 A14 H Oₚ eF14 eA14 => ?_)
      have O := OUT_trans O Oₚ
      -- Tokens.areFlags
      have cF14 : SF oz_D5clsl_0 F F14 := SF_trans (cFu13) (SF_gluc (ι := oz_D5clsl_1) oz_D5cls_9 hS14 eF14 (by decide +kernel)) (any_sub (lₚ := []) (by decide +kernel))
      have mF14 := SFm_of cF14 oz_D5cls_6
      have cA14 : SA oz_D5clsl_1 A A14 := SA_trans (cA9) (SA_gluc (ι := oz_D5clsl_1) oz_D5cls_9 hA14 eA14 (by decide +kernel)) (any_subA (lₚ := []) (by decide +kernel))
      have mA14 := SAm_of cA14 oz_D5cls_7
      have haf := aflB hfr
      have haq := pz14_1
      refine w_ifne (t := 75) rfl rfl (show inr (z14) from q_138 pz14_0) (fun b15 => ?_) (fun b15 => ?_)
      · have hTF : TFl (((v12 % 256))) := haf.mp (by omega)
        refine Ew_of (pcₚ := 76) (fun _ => x_aload_n rfl rfl) ?_
        refine v_g H (o := 0) (v := I (u0_5)) rfl rfl rfl rfl rfl (congrArg (fun z : Int => I z) (((mF14 0 5 rfl).trans (eu0_5)) : F14 0 5 = u0_5)) ?_
        refine Ew_of (pcₚ := 80) (fun _ => x_iload_n rfl rfl) ?_
        refine w_isub rfl ?_
        refine Ew_of (pcₚ := 83) (fun _ => x_bipush (z := 6) rfl (by decide)) ?_
        refine w_icmpge (t := 96) rfl rfl (show inr ((u0_5 - a1)) from q_3263 b11 h1 h2) (show inr (6) from q_756) (fun b16 => ?_) (fun b16 => ?_)
        · refine Ew_of (pcₚ := 97) (fun _ => x_aload_n rfl rfl) ?_
          refine v_g H (o := 0) (v := .ref (D 1)) rfl rfl rfl rfl rfl (vrf ((mF14 0 4 rfl).trans (pf1))) ?_
          refine Ew_of (pcₚ := 101) (fun _ => x_iload_n rfl rfl) ?_
          refine Ew_of (pcₚ := 102) (fun _ => x_iconst rfl) ?_
          refine w_iadd rfl ?_
          refine v_lB H (o := 1) rfl rfl rfl rfl (n := n1) (en1) (show 0 ≤ (a1 + 5) ∧ (a1 + 5) < n1 from q_3264 b16 h1 h2) (fun v17 ev17 qv17 => ?_)
          have ev17 : (w1) ((a1 + 5)) = v17 := (congrFun ((funext (mA14 1 rfl)).trans (ew1)) ((a1 + 5))).symm.trans ev17
          have hvc := ev17
          refine Ew_of (pcₚ := 107) (fun _ => x_sipush (z := 255) rfl (by decide)) ?_
          refine v_and255 rfl ?_
          refine Ew_of (pcₚ := 109) (fun _ => x_iconst rfl) ?_
          refine w_ishrK 4 16 (by decide) (by decide) rfl (show inr ((v17 % 256)) from q_461) (fun z18 gz18 dz18 => ?_)
          have hk4 : (z18) = (ub8 ((w1))) ((a1) + 5) / 16 := by rw [ub_eq hvc rfl]; omega
          refine Ew_of (pcₚ := 111) (fun _ => x_istore_n rfl) ?_
          refine Ew_of (pcₚ := 112) (fun _ => x_aload_n rfl (rk_o (rfl) rfl rfl)) ?_
          refine v_g H (o := 0) (v := .ref (D 1)) rfl rfl rfl rfl rfl (vrf ((mF14 0 4 rfl).trans (pf1))) ?_
          refine Ew_of (pcₚ := 116) (fun _ => x_iload_n rfl (rk_o (rfl) rfl rfl)) ?_
          refine Ew_of (pcₚ := 117) (fun _ => x_iconst rfl) ?_
          refine w_iadd rfl ?_
          refine v_lB H (o := 1) rfl rfl rfl rfl (n := n1) (en1) (show 0 ≤ (a1 + 5) ∧ (a1 + 5) < n1 from q_3264 b16 h1 h2) (fun v19 ev19 qv19 => ?_)
          have ev19 : (w1) ((a1 + 5)) = v19 := (congrFun ((funext (mA14 1 rfl)).trans (ew1)) ((a1 + 5))).symm.trans ev19
          have hvd := ev19
          refine Ew_of (pcₚ := 121) (fun _ => x_bipush (z := 15) rfl (by decide)) ?_
          refine w_iandE rfl (show inr (v19) from q_97 qv19) (show inr (15) from q_399) (fun z20 gz20 gaz20 gbz20 gez20 => ?_)
          have hg15 := gez20
          have hk5 : (z20) = (ub8 ((w1))) ((a1) + 5) % 16 := by rw [← hg15, and15b (by omega) rfl, ub_eq hvd rfl]
          refine w_ifne (t := 136) rfl rfl (show inr (z20) from gz20) (fun b21 => ?_) (fun b21 => ?_)
          · refine Ew_of (pcₚ := 137) (fun _ => x_aload_n rfl (rk_o (rfl) rfl rfl)) ?_
            refine Ew_of (pcₚ := 138) (fun _ => x_iconst rfl) ?_
            refine Ew_of (pcₚ := 139) (fun _ => x_iload_n rfl (rk_o (rfl) rfl rfl)) ?_
            refine Ew_of (pcₚ := 140) (fun _ => x_iconst rfl) ?_
            refine w_iadd rfl ?_
            refine v_inv H (o := 0) rfl rfl rfl rfl rfl rfl (by rfl) (C221 (D := puc 0 D) (N := puc 0 N) (HW_subc H oz_D5cls_4 oz_D5cls_10) (u0_12) (((((show F14 0 12 = (updF F9 0 8 ((v12 % 256))) 0 12 from (eF14 0 12))).trans ((show F9 0 12 = F 0 12 from (eF9 0 12)))).trans (eu0_12))) (show inr (5) from q_727) (show inr ((a1 + 5)) from q_3265 b16 h1 h2) (fun z22 σ22 F22ₚ A22ₚ Hₚ Oₚ hS22 hA22 y22_0_12 ey22_0_12 pz22_0 pz22_1 pz22_2 => ⟨rfl, ?_⟩))
            refine v_backc (c := c) (s := s) H oz_D5cls_4 oz_D5cls_10 Hₚ Oₚ (fun F22 A22 H Oₚ eF22 eA22 => ?_)
            have O := OUT_trans O Oₚ
            -- Tokens.fail
            have cF22 : SF oz_D5clsl_0 F F22 := SF_trans (cF14) (SF_gluc (ι := oz_D5clsl_3) oz_D5cls_10 hS22 eF22 (by decide +kernel)) (any_sub (lₚ := [(0, 12)]) (by decide +kernel))
            have mF22 := SFm_of cF22 oz_D5cls_6
            have cA22 : SA oz_D5clsl_1 A A22 := SA_trans (cA14) (SA_gluc (ι := oz_D5clsl_3) oz_D5cls_10 hA22 eA22 (by decide +kernel)) (any_subA (lₚ := []) (by decide +kernel))
            have mA22 := SAm_of cA22 oz_D5cls_7
            have r23 : (-2147483648 : Int) ≤ y22_0_12 ∧ y22_0_12 ≤ 2147483647 := rngE (show (-2147483648 : Int) ≤ F22 0 12 ∧ F22 0 12 ≤ 2147483647 from H.krg 0 12 (ltn len_V227_oz_D5cls rfl)) (show F22 0 12 = y22_0_12 from ((eF22 0 12).trans ey22_0_12))
            have : IMP (nvl (ub8 ((w1))) ((a1)) 4 = 407708164) (THd (ub8 ((w1))) ((u0_5)) ((a1)) ((z22)) ((y22_0_12)) (((v12 % 256))) ((u0_9))) := fun _ => THd_6 rfl hv3 hTF (by omega) rfl rfl (by omega) (by omega) (by omega)
            have : IMP (nvl (ub8 ((w1))) ((a1)) 4 ≠ 407708164) ((z22) = 4 ∧ (y22_0_12) = (a1)) := fun z => absurd hmk z
            exact w_ireturn rfl (k (z22) _ _ _ H O (cF22) (cA22) ((v12 % 256)) ((((show F22 0 8 = F14 0 8 from (eF22 0 8).trans (hS22 0 8 rfl))).trans ((show F14 0 8 = (updF F9 0 8 ((v12 % 256))) 0 8 from (eF14 0 8))))) (u0_9) ((((((show F22 0 9 = F14 0 9 from (eF22 0 9).trans (hS22 0 9 rfl))).trans ((show F14 0 9 = (updF F9 0 8 ((v12 % 256))) 0 9 from (eF14 0 9)))).trans ((show F9 0 9 = F 0 9 from (eF9 0 9)))).trans (eu0_9))) (u0_10) ((((((show F22 0 10 = F14 0 10 from (eF22 0 10).trans (hS22 0 10 rfl))).trans ((show F14 0 10 = (updF F9 0 8 ((v12 % 256))) 0 10 from (eF14 0 10)))).trans ((show F9 0 10 = F 0 10 from (eF9 0 10)))).trans (eu0_10))) (y22_0_12) (((eF22 0 12).trans ey22_0_12)) (show inr (z22) from pz22_0) (show 0 ≤ (z22) ∧ (z22) ≤ 6 from q_3245 pz22_1) (show (z22) = 0 → a1 + 7 ≤ (y22_0_12) ∧ (y22_0_12) ≤ (u0_5) ∧ (u0_10) = (u2_1) ∧ 65536 ≤ (u0_9) ∧ (u0_9) ≤ 4194304 from q_3267 b16 h3 pz22_1 pz22_2 r3 r4) (show (z22) = 0 → andI (((v12 % 256))) 8 = 0 ∨ a1 + 14 ≤ (u0_5) from q_3266 pz22_1) (show IMP (nvl (ub8 ((w1))) (a1) 4 = 407708164) (THd (ub8 ((w1))) ((u0_5)) (a1) ((z22)) ((y22_0_12)) (((v12 % 256))) ((u0_9))) by assumption) (show IMP (nvl (ub8 ((w1))) (a1) 4 ≠ 407708164) ((z22) = 4 ∧ (y22_0_12) = a1) by assumption))
          · refine Ew_of (pcₚ := 126) (fun _ => x_iload_n rfl rk_s) ?_
            refine Ew_of (pcₚ := 127) (fun _ => x_iconst rfl) ?_
            refine w_icmplt (t := 136) rfl rfl (show inr (z18) from gz18) (show inr (4) from q_216) (fun b24 => ?_) (fun b24 => ?_)
            · refine Ew_of (pcₚ := 137) (fun _ => x_aload_n rfl (rk_o (rfl) rfl rfl)) ?_
              refine Ew_of (pcₚ := 138) (fun _ => x_iconst rfl) ?_
              refine Ew_of (pcₚ := 139) (fun _ => x_iload_n rfl (rk_o (rfl) rfl rfl)) ?_
              refine Ew_of (pcₚ := 140) (fun _ => x_iconst rfl) ?_
              refine w_iadd rfl ?_
              refine v_inv H (o := 0) rfl rfl rfl rfl rfl rfl (by rfl) (C221 (D := puc 0 D) (N := puc 0 N) (HW_subc H oz_D5cls_4 oz_D5cls_10) (u0_12) (((((show F14 0 12 = (updF F9 0 8 ((v12 % 256))) 0 12 from (eF14 0 12))).trans ((show F9 0 12 = F 0 12 from (eF9 0 12)))).trans (eu0_12))) (show inr (5) from q_727) (show inr ((a1 + 5)) from q_3265 b16 h1 h2) (fun z25 σ25 F25ₚ A25ₚ Hₚ Oₚ hS25 hA25 y25_0_12 ey25_0_12 pz25_0 pz25_1 pz25_2 => ⟨rfl, ?_⟩))
              refine v_backc (c := c) (s := s) H oz_D5cls_4 oz_D5cls_10 Hₚ Oₚ (fun F25 A25 H Oₚ eF25 eA25 => ?_)
              have O := OUT_trans O Oₚ
              -- Tokens.fail
              have cF25 : SF oz_D5clsl_0 F F25 := SF_trans (cF14) (SF_gluc (ι := oz_D5clsl_3) oz_D5cls_10 hS25 eF25 (by decide +kernel)) (any_sub (lₚ := [(0, 12)]) (by decide +kernel))
              have mF25 := SFm_of cF25 oz_D5cls_6
              have cA25 : SA oz_D5clsl_1 A A25 := SA_trans (cA14) (SA_gluc (ι := oz_D5clsl_3) oz_D5cls_10 hA25 eA25 (by decide +kernel)) (any_subA (lₚ := []) (by decide +kernel))
              have mA25 := SAm_of cA25 oz_D5cls_7
              have r26 : (-2147483648 : Int) ≤ y25_0_12 ∧ y25_0_12 ≤ 2147483647 := rngE (show (-2147483648 : Int) ≤ F25 0 12 ∧ F25 0 12 ≤ 2147483647 from H.krg 0 12 (ltn len_V227_oz_D5cls rfl)) (show F25 0 12 = y25_0_12 from ((eF25 0 12).trans ey25_0_12))
              have : IMP (nvl (ub8 ((w1))) ((a1)) 4 = 407708164) (THd (ub8 ((w1))) ((u0_5)) ((a1)) ((z25)) ((y25_0_12)) (((v12 % 256))) ((u0_9))) := fun _ => THd_6 rfl hv3 hTF (by omega) rfl rfl (by omega) (by omega) (by omega)
              have : IMP (nvl (ub8 ((w1))) ((a1)) 4 ≠ 407708164) ((z25) = 4 ∧ (y25_0_12) = (a1)) := fun z => absurd hmk z
              exact w_ireturn rfl (k (z25) _ _ _ H O (cF25) (cA25) ((v12 % 256)) ((((show F25 0 8 = F14 0 8 from (eF25 0 8).trans (hS25 0 8 rfl))).trans ((show F14 0 8 = (updF F9 0 8 ((v12 % 256))) 0 8 from (eF14 0 8))))) (u0_9) ((((((show F25 0 9 = F14 0 9 from (eF25 0 9).trans (hS25 0 9 rfl))).trans ((show F14 0 9 = (updF F9 0 8 ((v12 % 256))) 0 9 from (eF14 0 9)))).trans ((show F9 0 9 = F 0 9 from (eF9 0 9)))).trans (eu0_9))) (u0_10) ((((((show F25 0 10 = F14 0 10 from (eF25 0 10).trans (hS25 0 10 rfl))).trans ((show F14 0 10 = (updF F9 0 8 ((v12 % 256))) 0 10 from (eF14 0 10)))).trans ((show F9 0 10 = F 0 10 from (eF9 0 10)))).trans (eu0_10))) (y25_0_12) (((eF25 0 12).trans ey25_0_12)) (show inr (z25) from pz25_0) (show 0 ≤ (z25) ∧ (z25) ≤ 6 from q_3245 pz25_1) (show (z25) = 0 → a1 + 7 ≤ (y25_0_12) ∧ (y25_0_12) ≤ (u0_5) ∧ (u0_10) = (u2_1) ∧ 65536 ≤ (u0_9) ∧ (u0_9) ≤ 4194304 from q_3267 b16 h3 pz25_1 pz25_2 r3 r4) (show (z25) = 0 → andI (((v12 % 256))) 8 = 0 ∨ a1 + 14 ≤ (u0_5) from q_3266 pz25_1) (show IMP (nvl (ub8 ((w1))) (a1) 4 = 407708164) (THd (ub8 ((w1))) ((u0_5)) (a1) ((z25)) ((y25_0_12)) (((v12 % 256))) ((u0_9))) by assumption) (show IMP (nvl (ub8 ((w1))) (a1) 4 ≠ 407708164) ((z25) = 4 ∧ (y25_0_12) = a1) by assumption))
            · refine Ew_of (pcₚ := 131) (fun _ => x_iload_n rfl rk_s) ?_
              refine Ew_of (pcₚ := 133) (fun _ => x_bipush (z := 7) rfl (by decide)) ?_
              refine w_icmple (t := 145) rfl rfl (show inr (z18) from gz18) (show inr (7) from q_597) (fun b27 => ?_) (fun b27 => ?_)
              · have hTQ : THq (ub8 ((w1))) ((u0_5)) ((a1)) (((v12 % 256))) ((ub8 ((w1))) ((a1) + 5)) := THq_i rfl hv3 hTF (by omega) rfl rfl (by omega)
                refine Ew_of (pcₚ := 146) (fun _ => x_iload_n rfl (rk_o (rfl) rfl rfl)) ?_
                refine Ew_of (pcₚ := 148) (fun _ => x_bipush (z := 6) rfl (by decide)) ?_
                refine w_iadd rfl ?_
                refine Ew_of (pcₚ := 150) (fun _ => x_aload_n rfl (rk_o (rfl) rfl rfl)) ?_
                refine v_g H (o := 0) (v := I ((v12 % 256))) rfl rfl rfl rfl rfl (congrArg (fun z : Int => I z) (((show F14 0 8 = (updF F9 0 8 ((v12 % 256))) 0 8 from (eF14 0 8))) : F14 0 8 = (v12 % 256))) ?_
                refine Ew_of (pcₚ := 155) (fun _ => x_bipush (z := 8) rfl (by decide)) ?_
                refine w_iandE rfl (show inr ((v12 % 256)) from q_3262 hfr) (show inr (8) from q_141) (fun z28 gz28 gaz28 gbz28 gez28 => ?_)
                refine w_ifeq (t := 164) rfl rfl (show inr (z28) from gz28) (fun b29 => ?_) (fun b29 => ?_)
                · refine Ew_of (pcₚ := 165) (fun _ => x_iconst rfl) ?_
                  refine w_iadd rfl ?_
                  refine Ew_of (pcₚ := 167) (fun _ => x_aload_n rfl (rk_o (rfl) rfl rfl)) ?_
                  refine v_g H (o := 0) (v := I ((v12 % 256))) rfl rfl rfl rfl rfl (congrArg (fun z : Int => I z) (((show F14 0 8 = (updF F9 0 8 ((v12 % 256))) 0 8 from (eF14 0 8))) : F14 0 8 = (v12 % 256))) ?_
                  refine Ew_of (pcₚ := 171) (fun _ => x_iconst rfl) ?_
                  refine w_iandE rfl (show inr ((v12 % 256)) from q_3262 hfr) (show inr (1) from q_135) (fun z30 gz30 gaz30 gbz30 gez30 => ?_)
                  refine w_ifeq (t := 179) rfl rfl (show inr (z30) from gz30) (fun b31 => ?_) (fun b31 => ?_)
                  · refine Ew_of (pcₚ := 180) (fun _ => x_iconst rfl) ?_
                    refine w_iadd rfl ?_
                    refine Ew_of (pcₚ := 182) (fun _ => x_istore_n rfl) ?_
                    have hHe : ((((a1 + 6) + 0) + 0)) = THe ((a1)) (((v12 % 256))) := by unfold THe; first | (rw [if_pos (by omega), if_pos (by omega)] <;> omega) | (rw [if_pos (by omega), if_neg (by omega)] <;> omega) | (rw [if_neg (by omega), if_pos (by omega)] <;> omega) | (rw [if_neg (by omega), if_neg (by omega)] <;> omega)
                    refine Ew_of (pcₚ := 183) (fun _ => x_iload_n rfl rk_s) ?_
                    refine Ew_of (pcₚ := 184) (fun _ => x_aload_n rfl (rk_o (rk_o (rfl) rfl rfl) rfl rfl)) ?_
                    refine v_g H (o := 0) (v := I (u0_5)) rfl rfl rfl rfl rfl (congrArg (fun z : Int => I z) (((mF14 0 5 rfl).trans (eu0_5)) : F14 0 5 = u0_5)) ?_
                    refine w_icmplt (t := 200) rfl rfl (show inr ((((a1 + 6) + 0) + 0)) from q_3268 b16 h1 h2) (show inr (u0_5) from q_38 h1) (fun b32 => ?_) (fun b32 => ?_)
                    · refine Ew_of (pcₚ := 201) (fun _ => x_aload_n rfl (rk_o (rk_o (rfl) rfl rfl) rfl rfl)) ?_
                      refine v_g H (o := 0) (v := .ref (D 1)) rfl rfl rfl rfl rfl (vrf ((mF14 0 4 rfl).trans (pf1))) ?_
                      refine Ew_of (pcₚ := 205) (fun _ => x_iload_n rfl rk_s) ?_
                      refine v_lB H (o := 1) rfl rfl rfl rfl (n := n1) (en1) (show 0 ≤ (((a1 + 6) + 0) + 0) ∧ (((a1 + 6) + 0) + 0) < n1 from q_3269 b32 h1 h2) (fun v33 ev33 qv33 => ?_)
                      have ev33 : (w1) ((((a1 + 6) + 0) + 0)) = v33 := (congrFun ((funext (mA14 1 rfl)).trans (ew1)) ((((a1 + 6) + 0) + 0))).symm.trans ev33
                      have hve := ev33
                      refine Ew_of (pcₚ := 209) (fun _ => x_sipush (z := 255) rfl (by decide)) ?_
                      refine v_and255 rfl ?_
                      have hv6 : (ub8 ((w1))) (((((a1 + 6) + 0) + 0))) = ((v33 % 256)) := ub_eq hve rfl
                      refine Ew_of (pcₚ := 211) (fun _ => x_aload_n rfl (rk_o (rk_o (rfl) rfl rfl) rfl rfl)) ?_
                      refine v_g H (o := 0) (v := .ref (D 1)) rfl rfl rfl rfl rfl (vrf ((mF14 0 4 rfl).trans (pf1))) ?_
                      refine Ew_of (pcₚ := 215) (fun _ => x_iload_n rfl (rk_o (rk_o (rfl) rfl rfl) rfl rfl)) ?_
                      refine Ew_of (pcₚ := 216) (fun _ => x_iconst rfl) ?_
                      refine w_iadd rfl ?_
                      refine Ew_of (pcₚ := 218) (fun _ => x_iload_n rfl rk_s) ?_
                      refine Ew_of (pcₚ := 219) (fun _ => x_iconst rfl) ?_
                      refine w_stat25 rfl rfl (by rfl) (C49_Br (D := puc 1 D) (N := puc 1 N) (HW_subc H oz_D5cls_5 oz_D5cls_8) (n1) (en1) (w1) ((funext (mA14 1 rfl)).trans (ew1)) (show inr ((a1 + 4)) from q_3272 b32 h1 h2) (show inr ((((a1 + 6) + 0) + 0)) from q_3271 b32 h1 h2) (show inr (0) from q_2) (show 0 ≤ ((a1 + 4)) ∧ ((a1 + 4)) ≤ ((((a1 + 6) + 0) + 0)) ∧ ((((a1 + 6) + 0) + 0)) ≤ (n1) from q_3270 b32 h1 h2) (fun z34 σ34 F34ₚ A34ₚ Hₚ Oₚ hS34 hA34 pz34_0 pz34_1 => ⟨rfl, ?_⟩))
                      refine v_backc (c := c) (s := s) H oz_D5cls_5 oz_D5cls_8 Hₚ Oₚ (fun F34 A34 H Oₚ eF34 eA34 => ?_)
                      have O := OUT_trans O Oₚ
                      -- PackHouse.narrowSum
                      have cF34 : SF oz_D5clsl_0 F F34 := SF_trans (cF14) (SF_gluc (ι := oz_D5clsl_2) oz_D5cls_8 hS34 eF34 (by decide +kernel)) (any_sub (lₚ := []) (by decide +kernel))
                      have mF34 := SFm_of cF34 oz_D5cls_6
                      have cA34 : SA oz_D5clsl_1 A A34 := SA_trans (cA14) (SA_gluc (ι := oz_D5clsl_2) oz_D5cls_8 hA34 eA34 (by decide +kernel)) (any_subA (lₚ := []) (by decide +kernel))
                      have mA34 := SAm_of cA34 oz_D5cls_7
                      have hns := pz34_1
                      refine Ew_of (pcₚ := 224) (fun _ => x_bipush (z := 8) rfl (by decide)) ?_
                      refine w_iushrE rfl ?_
                      have g35 : inr (usI (z34) (8)) := toI_inr _
                      refine Ew_of (pcₚ := 228) (fun _ => x_sipush (z := 255) rfl (by decide)) ?_
                      refine v_and255 rfl ?_
                      have hs6 : (((usI (z34) (8)) % 256)) = THs (ub8 ((w1))) ((a1)) (((((a1 + 6) + 0) + 0))) := by have h := u8_us8 (z34); unfold u8 at h; unfold THs; rw [NSM_ub (by omega), show ((((a1 + 6) + 0) + 0)) - ((a1) + 4) = ((((a1 + 6) + 0) + 0)) - ((a1) + 4) from rfl, ← hns]; omega
                      refine w_icmpeq (t := 240) rfl rfl (show inr ((v33 % 256)) from q_461) (show inr (((usI (z34) (8)) % 256)) from q_461) (fun b36 => ?_) (fun b36 => ?_)
                      · refine Ew_of (pcₚ := 241) (fun _ => x_aload_n rfl (rk_o (rk_o (rfl) rfl rfl) rfl rfl)) ?_
                        refine Ew_of (pcₚ := 242) (fun _ => x_iconst rfl) ?_
                        refine Ew_of (pcₚ := 244) (fun _ => x_bipush (z := 8) rfl (by decide)) ?_
                        refine Ew_of (pcₚ := 245) (fun _ => x_iconst rfl) ?_
                        refine Ew_of (pcₚ := 246) (fun _ => x_iload_n rfl (rk_o (rk_s) rfl rfl)) ?_
                        refine w_imul rfl ?_
                        refine w_iadd rfl ?_
                        have hp16 : p2 (((8 + (2 * z18)))) ≤ p2 22 := p2_mono (by omega)
                        have hp17 : p2 16 ≤ p2 (((8 + (2 * z18)))) := p2_mono (by omega)
                        have : p2 22 = 4194304 := by decide
                        have : p2 16 = 65536 := by decide
                        have := p2_pos (((8 + (2 * z18))))
                        refine w_ishl1 rfl (show 0 ≤ (8 + (2 * z18)) ∧ (8 + (2 * z18)) ≤ 31 from q_3273 b24 b27) ?_
                        refine v_p H (o := 0) (z := p2 ((8 + (2 * z18)))) (v := I (p2 ((8 + (2 * z18))))) rfl rfl rfl rfl rfl rfl rfl rfl (show (-2147483648 : Int) ≤ p2 ((8 + (2 * z18))) ∧ p2 ((8 + (2 * z18))) ≤ 2147483647 by omega) (fun σ H Oₚ => ?_)
                        have O := OUT_trans O Oₚ
                        have cFu38 : SF oz_D5clsl_0 F (updF F34 0 9 (p2 ((8 + (2 * z18))))) := SF_upd (cF34) rfl
                        have mFu38 := SFm_of cFu38 oz_D5cls_6
                        refine Ew_of (pcₚ := 253) (fun _ => x_aload_n rfl (rk_o (rk_o (rfl) rfl rfl) rfl rfl)) ?_
                        refine Ew_of (pcₚ := 254) (fun _ => x_aload_n rfl (rk_o (rk_o (rfl) rfl rfl) rfl rfl)) ?_
                        refine v_g H (o := 0) (v := .ref (D 2)) rfl rfl rfl rfl rfl (vrf ((mFu38 0 6 rfl).trans (pf2))) ?_
                        refine v_g H (o := 2) (v := I (u2_1)) rfl rfl rfl rfl rfl (congrArg (fun z : Int => I z) (((mFu38 2 1 rfl).trans (eu2_1)) : (updF F34 0 9 (p2 ((8 + (2 * z18))))) 2 1 = u2_1)) ?_
                        refine v_p H (o := 0) (z := u2_1) (v := I (u2_1)) rfl rfl rfl rfl rfl rfl rfl rfl (show (-2147483648 : Int) ≤ u2_1 ∧ u2_1 ≤ 2147483647 from r6) (fun σ H Oₚ => ?_)
                        have O := OUT_trans O Oₚ
                        have cFu39 : SF oz_D5clsl_0 F (updF (updF F34 0 9 (p2 ((8 + (2 * z18))))) 0 10 (u2_1)) := SF_upd (cFu38) rfl
                        have mFu39 := SFm_of cFu39 oz_D5cls_6
                        refine Ew_of (pcₚ := 264) (fun _ => x_aload_n rfl (rk_o (rk_o (rfl) rfl rfl) rfl rfl)) ?_
                        refine Ew_of (pcₚ := 265) (fun _ => x_iconst rfl) ?_
                        refine Ew_of (pcₚ := 266) (fun _ => x_iload_n rfl rk_s) ?_
                        refine Ew_of (pcₚ := 267) (fun _ => x_iconst rfl) ?_
                        refine w_iadd rfl ?_
                        refine v_inv H (o := 0) rfl rfl rfl rfl rfl rfl (by rfl) (C221 (D := puc 0 D) (N := puc 0 N) (HW_subc H oz_D5cls_4 oz_D5cls_10) (u0_12) ((((((show F34 0 12 = F14 0 12 from (eF34 0 12))).trans ((show F14 0 12 = (updF F9 0 8 ((v12 % 256))) 0 12 from (eF14 0 12)))).trans ((show F9 0 12 = F 0 12 from (eF9 0 12)))).trans (eu0_12))) (show inr (0) from q_2) (show inr (((((a1 + 6) + 0) + 0) + 1)) from q_3274 b32 h1 h2) (fun z40 σ40 F40ₚ A40ₚ Hₚ Oₚ hS40 hA40 y40_0_12 ey40_0_12 pz40_0 pz40_1 pz40_2 => ⟨rfl, ?_⟩))
                        refine v_backc (c := c) (s := s) H oz_D5cls_4 oz_D5cls_10 Hₚ Oₚ (fun F40 A40 H Oₚ eF40 eA40 => ?_)
                        have O := OUT_trans O Oₚ
                        -- Tokens.fail
                        have cF40 : SF oz_D5clsl_0 F F40 := SF_trans (cFu39) (SF_gluc (ι := oz_D5clsl_3) oz_D5cls_10 hS40 eF40 (by decide +kernel)) (any_sub (lₚ := [(0, 12)]) (by decide +kernel))
                        have mF40 := SFm_of cF40 oz_D5cls_6
                        have cA40 : SA oz_D5clsl_1 A A40 := SA_trans (cA34) (SA_gluc (ι := oz_D5clsl_3) oz_D5cls_10 hA40 eA40 (by decide +kernel)) (any_subA (lₚ := []) (by decide +kernel))
                        have mA40 := SAm_of cA40 oz_D5cls_7
                        have r41 : (-2147483648 : Int) ≤ y40_0_12 ∧ y40_0_12 ≤ 2147483647 := rngE (show (-2147483648 : Int) ≤ F40 0 12 ∧ F40 0 12 ≤ 2147483647 from H.krg 0 12 (ltn len_V227_oz_D5cls rfl)) (show F40 0 12 = y40_0_12 from ((eF40 0 12).trans ey40_0_12))
                        have : IMP (nvl (ub8 ((w1))) ((a1)) 4 = 407708164) (THd (ub8 ((w1))) ((u0_5)) ((a1)) ((z40)) ((y40_0_12)) (((v12 % 256))) ((p2 ((8 + (2 * z18)))))) := fun _ => THd_0 hTQ hHe (by omega) hv6 hs6 (by omega) (by omega) (by omega) rfl (by rw [← hk4])
                        have : IMP (nvl (ub8 ((w1))) ((a1)) 4 ≠ 407708164) ((z40) = 4 ∧ (y40_0_12) = (a1)) := fun z => absurd hmk z
                        exact w_ireturn rfl (k (z40) _ _ _ H O (cF40) (cA40) ((v12 % 256)) (((((show F40 0 8 = (updF (updF F34 0 9 (p2 ((8 + (2 * z18))))) 0 10 (u2_1)) 0 8 from (eF40 0 8).trans (hS40 0 8 rfl))).trans ((show F34 0 8 = F14 0 8 from (eF34 0 8)))).trans ((show F14 0 8 = (updF F9 0 8 ((v12 % 256))) 0 8 from (eF14 0 8))))) (p2 ((8 + (2 * z18)))) (((show F40 0 9 = (updF (updF F34 0 9 (p2 ((8 + (2 * z18))))) 0 10 (u2_1)) 0 9 from (eF40 0 9).trans (hS40 0 9 rfl)))) (u2_1) (((show F40 0 10 = (updF (updF F34 0 9 (p2 ((8 + (2 * z18))))) 0 10 (u2_1)) 0 10 from (eF40 0 10).trans (hS40 0 10 rfl)))) (y40_0_12) (((eF40 0 12).trans ey40_0_12)) (show inr (z40) from pz40_0) (show 0 ≤ (z40) ∧ (z40) ≤ 6 from q_3228 pz40_1) (show (z40) = 0 → a1 + 7 ≤ (y40_0_12) ∧ (y40_0_12) ≤ (u0_5) ∧ (u2_1) = (u2_1) ∧ 65536 ≤ (p2 ((8 + (2 * z18)))) ∧ (p2 ((8 + (2 * z18)))) ≤ 4194304 by omega) (show (z40) = 0 → andI (((v12 % 256))) 8 = 0 ∨ a1 + 14 ≤ (u0_5) from q_3275 b29 gez28) (show IMP (nvl (ub8 ((w1))) (a1) 4 = 407708164) (THd (ub8 ((w1))) ((u0_5)) (a1) ((z40)) ((y40_0_12)) (((v12 % 256))) ((p2 ((8 + (2 * z18)))))) by assumption) (show IMP (nvl (ub8 ((w1))) (a1) 4 ≠ 407708164) ((z40) = 4 ∧ (y40_0_12) = a1) by assumption))
                      · refine Ew_of (pcₚ := 233) (fun _ => x_aload_n rfl (rk_o (rk_o (rfl) rfl rfl) rfl rfl)) ?_
                        refine Ew_of (pcₚ := 235) (fun _ => x_bipush (z := 6) rfl (by decide)) ?_
                        refine Ew_of (pcₚ := 236) (fun _ => x_iload_n rfl rk_s) ?_
                        refine v_inv H (o := 0) rfl rfl rfl rfl rfl rfl (by rfl) (C221 (D := puc 0 D) (N := puc 0 N) (HW_subc H oz_D5cls_4 oz_D5cls_10) (u0_12) ((((((show F34 0 12 = F14 0 12 from (eF34 0 12))).trans ((show F14 0 12 = (updF F9 0 8 ((v12 % 256))) 0 12 from (eF14 0 12)))).trans ((show F9 0 12 = F 0 12 from (eF9 0 12)))).trans (eu0_12))) (show inr (6) from q_756) (show inr ((((a1 + 6) + 0) + 0)) from q_3271 b32 h1 h2) (fun z42 σ42 F42ₚ A42ₚ Hₚ Oₚ hS42 hA42 y42_0_12 ey42_0_12 pz42_0 pz42_1 pz42_2 => ⟨rfl, ?_⟩))
                        refine v_backc (c := c) (s := s) H oz_D5cls_4 oz_D5cls_10 Hₚ Oₚ (fun F42 A42 H Oₚ eF42 eA42 => ?_)
                        have O := OUT_trans O Oₚ
                        -- Tokens.fail
                        have cF42 : SF oz_D5clsl_0 F F42 := SF_trans (cF34) (SF_gluc (ι := oz_D5clsl_3) oz_D5cls_10 hS42 eF42 (by decide +kernel)) (any_sub (lₚ := [(0, 12)]) (by decide +kernel))
                        have mF42 := SFm_of cF42 oz_D5cls_6
                        have cA42 : SA oz_D5clsl_1 A A42 := SA_trans (cA34) (SA_gluc (ι := oz_D5clsl_3) oz_D5cls_10 hA42 eA42 (by decide +kernel)) (any_subA (lₚ := []) (by decide +kernel))
                        have mA42 := SAm_of cA42 oz_D5cls_7
                        have r43 : (-2147483648 : Int) ≤ y42_0_12 ∧ y42_0_12 ≤ 2147483647 := rngE (show (-2147483648 : Int) ≤ F42 0 12 ∧ F42 0 12 ≤ 2147483647 from H.krg 0 12 (ltn len_V227_oz_D5cls rfl)) (show F42 0 12 = y42_0_12 from ((eF42 0 12).trans ey42_0_12))
                        have : IMP (nvl (ub8 ((w1))) ((a1)) 4 = 407708164) (THd (ub8 ((w1))) ((u0_5)) ((a1)) ((z42)) ((y42_0_12)) (((v12 % 256))) ((u0_9))) := fun _ => THd_8 hTQ hHe (by omega) hv6 hs6 (by omega) (by omega) (by omega)
                        have : IMP (nvl (ub8 ((w1))) ((a1)) 4 ≠ 407708164) ((z42) = 4 ∧ (y42_0_12) = (a1)) := fun z => absurd hmk z
                        exact w_ireturn rfl (k (z42) _ _ _ H O (cF42) (cA42) ((v12 % 256)) (((((show F42 0 8 = F34 0 8 from (eF42 0 8).trans (hS42 0 8 rfl))).trans ((show F34 0 8 = F14 0 8 from (eF34 0 8)))).trans ((show F14 0 8 = (updF F9 0 8 ((v12 % 256))) 0 8 from (eF14 0 8))))) (u0_9) (((((((show F42 0 9 = F34 0 9 from (eF42 0 9).trans (hS42 0 9 rfl))).trans ((show F34 0 9 = F14 0 9 from (eF34 0 9)))).trans ((show F14 0 9 = (updF F9 0 8 ((v12 % 256))) 0 9 from (eF14 0 9)))).trans ((show F9 0 9 = F 0 9 from (eF9 0 9)))).trans (eu0_9))) (u0_10) (((((((show F42 0 10 = F34 0 10 from (eF42 0 10).trans (hS42 0 10 rfl))).trans ((show F34 0 10 = F14 0 10 from (eF34 0 10)))).trans ((show F14 0 10 = (updF F9 0 8 ((v12 % 256))) 0 10 from (eF14 0 10)))).trans ((show F9 0 10 = F 0 10 from (eF9 0 10)))).trans (eu0_10))) (y42_0_12) (((eF42 0 12).trans ey42_0_12)) (show inr (z42) from pz42_0) (show 0 ≤ (z42) ∧ (z42) ≤ 6 from q_3230 pz42_1) (show (z42) = 0 → a1 + 7 ≤ (y42_0_12) ∧ (y42_0_12) ≤ (u0_5) ∧ (u0_10) = (u2_1) ∧ 65536 ≤ (u0_9) ∧ (u0_9) ≤ 4194304 from q_3277 b32 h3 pz42_1 pz42_2 r3 r4) (show (z42) = 0 → andI (((v12 % 256))) 8 = 0 ∨ a1 + 14 ≤ (u0_5) from q_3276 pz42_1) (show IMP (nvl (ub8 ((w1))) (a1) 4 = 407708164) (THd (ub8 ((w1))) ((u0_5)) (a1) ((z42)) ((y42_0_12)) (((v12 % 256))) ((u0_9))) by assumption) (show IMP (nvl (ub8 ((w1))) (a1) 4 ≠ 407708164) ((z42) = 4 ∧ (y42_0_12) = a1) by assumption))
                    · refine Ew_of (pcₚ := 191) (fun _ => x_aload_n rfl (rk_o (rk_o (rfl) rfl rfl) rfl rfl)) ?_
                      refine Ew_of (pcₚ := 192) (fun _ => x_iconst rfl) ?_
                      refine Ew_of (pcₚ := 193) (fun _ => x_aload_n rfl (rk_o (rk_o (rfl) rfl rfl) rfl rfl)) ?_
                      refine v_g H (o := 0) (v := I (u0_5)) rfl rfl rfl rfl rfl (congrArg (fun z : Int => I z) (((mF14 0 5 rfl).trans (eu0_5)) : F14 0 5 = u0_5)) ?_
                      refine v_inv H (o := 0) rfl rfl rfl rfl rfl rfl (by rfl) (C221 (D := puc 0 D) (N := puc 0 N) (HW_subc H oz_D5cls_4 oz_D5cls_10) (u0_12) (((((show F14 0 12 = (updF F9 0 8 ((v12 % 256))) 0 12 from (eF14 0 12))).trans ((show F9 0 12 = F 0 12 from (eF9 0 12)))).trans (eu0_12))) (show inr (1) from q_135) (show inr (u0_5) from q_38 h1) (fun z44 σ44 F44ₚ A44ₚ Hₚ Oₚ hS44 hA44 y44_0_12 ey44_0_12 pz44_0 pz44_1 pz44_2 => ⟨rfl, ?_⟩))
                      refine v_backc (c := c) (s := s) H oz_D5cls_4 oz_D5cls_10 Hₚ Oₚ (fun F44 A44 H Oₚ eF44 eA44 => ?_)
                      have O := OUT_trans O Oₚ
                      -- Tokens.fail
                      have cF44 : SF oz_D5clsl_0 F F44 := SF_trans (cF14) (SF_gluc (ι := oz_D5clsl_3) oz_D5cls_10 hS44 eF44 (by decide +kernel)) (any_sub (lₚ := [(0, 12)]) (by decide +kernel))
                      have mF44 := SFm_of cF44 oz_D5cls_6
                      have cA44 : SA oz_D5clsl_1 A A44 := SA_trans (cA14) (SA_gluc (ι := oz_D5clsl_3) oz_D5cls_10 hA44 eA44 (by decide +kernel)) (any_subA (lₚ := []) (by decide +kernel))
                      have mA44 := SAm_of cA44 oz_D5cls_7
                      have r45 : (-2147483648 : Int) ≤ y44_0_12 ∧ y44_0_12 ≤ 2147483647 := rngE (show (-2147483648 : Int) ≤ F44 0 12 ∧ F44 0 12 ≤ 2147483647 from H.krg 0 12 (ltn len_V227_oz_D5cls rfl)) (show F44 0 12 = y44_0_12 from ((eF44 0 12).trans ey44_0_12))
                      have : IMP (nvl (ub8 ((w1))) ((a1)) 4 = 407708164) (THd (ub8 ((w1))) ((u0_5)) ((a1)) ((z44)) ((y44_0_12)) (((v12 % 256))) ((u0_9))) := fun _ => THd_7 hTQ hHe (by omega) (by omega) (by omega)
                      have : IMP (nvl (ub8 ((w1))) ((a1)) 4 ≠ 407708164) ((z44) = 4 ∧ (y44_0_12) = (a1)) := fun z => absurd hmk z
                      exact w_ireturn rfl (k (z44) _ _ _ H O (cF44) (cA44) ((v12 % 256)) ((((show F44 0 8 = F14 0 8 from (eF44 0 8).trans (hS44 0 8 rfl))).trans ((show F14 0 8 = (updF F9 0 8 ((v12 % 256))) 0 8 from (eF14 0 8))))) (u0_9) ((((((show F44 0 9 = F14 0 9 from (eF44 0 9).trans (hS44 0 9 rfl))).trans ((show F14 0 9 = (updF F9 0 8 ((v12 % 256))) 0 9 from (eF14 0 9)))).trans ((show F9 0 9 = F 0 9 from (eF9 0 9)))).trans (eu0_9))) (u0_10) ((((((show F44 0 10 = F14 0 10 from (eF44 0 10).trans (hS44 0 10 rfl))).trans ((show F14 0 10 = (updF F9 0 8 ((v12 % 256))) 0 10 from (eF14 0 10)))).trans ((show F9 0 10 = F 0 10 from (eF9 0 10)))).trans (eu0_10))) (y44_0_12) (((eF44 0 12).trans ey44_0_12)) (show inr (z44) from pz44_0) (show 0 ≤ (z44) ∧ (z44) ≤ 6 from q_3240 pz44_1) (show (z44) = 0 → a1 + 7 ≤ (y44_0_12) ∧ (y44_0_12) ≤ (u0_5) ∧ (u0_10) = (u2_1) ∧ 65536 ≤ (u0_9) ∧ (u0_9) ≤ 4194304 from q_3279 b16 h3 pz44_1 pz44_2 r3 r4) (show (z44) = 0 → andI (((v12 % 256))) 8 = 0 ∨ a1 + 14 ≤ (u0_5) from q_3278 pz44_1) (show IMP (nvl (ub8 ((w1))) (a1) 4 = 407708164) (THd (ub8 ((w1))) ((u0_5)) (a1) ((z44)) ((y44_0_12)) (((v12 % 256))) ((u0_9))) by assumption) (show IMP (nvl (ub8 ((w1))) (a1) 4 ≠ 407708164) ((z44) = 4 ∧ (y44_0_12) = a1) by assumption))
                  · refine Ew_of (pcₚ := 176) (fun _ => x_iconst rfl) ?_
                    refine Ew_of (pcₚ := 180) (fun _ => x_goto rfl rfl) ?_
                    refine w_iadd rfl ?_
                    refine Ew_of (pcₚ := 182) (fun _ => x_istore_n rfl) ?_
                    have hHe : ((((a1 + 6) + 0) + 4)) = THe ((a1)) (((v12 % 256))) := by unfold THe; first | (rw [if_pos (by omega), if_pos (by omega)] <;> omega) | (rw [if_pos (by omega), if_neg (by omega)] <;> omega) | (rw [if_neg (by omega), if_pos (by omega)] <;> omega) | (rw [if_neg (by omega), if_neg (by omega)] <;> omega)
                    refine Ew_of (pcₚ := 183) (fun _ => x_iload_n rfl rk_s) ?_
                    refine Ew_of (pcₚ := 184) (fun _ => x_aload_n rfl (rk_o (rk_o (rfl) rfl rfl) rfl rfl)) ?_
                    refine v_g H (o := 0) (v := I (u0_5)) rfl rfl rfl rfl rfl (congrArg (fun z : Int => I z) (((mF14 0 5 rfl).trans (eu0_5)) : F14 0 5 = u0_5)) ?_
                    refine w_icmplt (t := 200) rfl rfl (show inr ((((a1 + 6) + 0) + 4)) from q_3280 b16 h1 h2) (show inr (u0_5) from q_38 h1) (fun b46 => ?_) (fun b46 => ?_)
                    · refine Ew_of (pcₚ := 201) (fun _ => x_aload_n rfl (rk_o (rk_o (rfl) rfl rfl) rfl rfl)) ?_
                      refine v_g H (o := 0) (v := .ref (D 1)) rfl rfl rfl rfl rfl (vrf ((mF14 0 4 rfl).trans (pf1))) ?_
                      refine Ew_of (pcₚ := 205) (fun _ => x_iload_n rfl rk_s) ?_
                      refine v_lB H (o := 1) rfl rfl rfl rfl (n := n1) (en1) (show 0 ≤ (((a1 + 6) + 0) + 4) ∧ (((a1 + 6) + 0) + 4) < n1 from q_3281 b46 h1 h2) (fun v47 ev47 qv47 => ?_)
                      have ev47 : (w1) ((((a1 + 6) + 0) + 4)) = v47 := (congrFun ((funext (mA14 1 rfl)).trans (ew1)) ((((a1 + 6) + 0) + 4))).symm.trans ev47
                      have hve := ev47
                      refine Ew_of (pcₚ := 209) (fun _ => x_sipush (z := 255) rfl (by decide)) ?_
                      refine v_and255 rfl ?_
                      have hv6 : (ub8 ((w1))) (((((a1 + 6) + 0) + 4))) = ((v47 % 256)) := ub_eq hve rfl
                      refine Ew_of (pcₚ := 211) (fun _ => x_aload_n rfl (rk_o (rk_o (rfl) rfl rfl) rfl rfl)) ?_
                      refine v_g H (o := 0) (v := .ref (D 1)) rfl rfl rfl rfl rfl (vrf ((mF14 0 4 rfl).trans (pf1))) ?_
                      refine Ew_of (pcₚ := 215) (fun _ => x_iload_n rfl (rk_o (rk_o (rfl) rfl rfl) rfl rfl)) ?_
                      refine Ew_of (pcₚ := 216) (fun _ => x_iconst rfl) ?_
                      refine w_iadd rfl ?_
                      refine Ew_of (pcₚ := 218) (fun _ => x_iload_n rfl rk_s) ?_
                      refine Ew_of (pcₚ := 219) (fun _ => x_iconst rfl) ?_
                      refine w_stat25 rfl rfl (by rfl) (C49_Br (D := puc 1 D) (N := puc 1 N) (HW_subc H oz_D5cls_5 oz_D5cls_8) (n1) (en1) (w1) ((funext (mA14 1 rfl)).trans (ew1)) (show inr ((a1 + 4)) from q_3284 b46 h1 h2) (show inr ((((a1 + 6) + 0) + 4)) from q_3283 b46 h1 h2) (show inr (0) from q_2) (show 0 ≤ ((a1 + 4)) ∧ ((a1 + 4)) ≤ ((((a1 + 6) + 0) + 4)) ∧ ((((a1 + 6) + 0) + 4)) ≤ (n1) from q_3282 b46 h1 h2) (fun z48 σ48 F48ₚ A48ₚ Hₚ Oₚ hS48 hA48 pz48_0 pz48_1 => ⟨rfl, ?_⟩))
                      refine v_backc (c := c) (s := s) H oz_D5cls_5 oz_D5cls_8 Hₚ Oₚ (fun F48 A48 H Oₚ eF48 eA48 => ?_)
                      have O := OUT_trans O Oₚ
                      -- PackHouse.narrowSum
                      have cF48 : SF oz_D5clsl_0 F F48 := SF_trans (cF14) (SF_gluc (ι := oz_D5clsl_2) oz_D5cls_8 hS48 eF48 (by decide +kernel)) (any_sub (lₚ := []) (by decide +kernel))
                      have mF48 := SFm_of cF48 oz_D5cls_6
                      have cA48 : SA oz_D5clsl_1 A A48 := SA_trans (cA14) (SA_gluc (ι := oz_D5clsl_2) oz_D5cls_8 hA48 eA48 (by decide +kernel)) (any_subA (lₚ := []) (by decide +kernel))
                      have mA48 := SAm_of cA48 oz_D5cls_7
                      have hns := pz48_1
                      refine Ew_of (pcₚ := 224) (fun _ => x_bipush (z := 8) rfl (by decide)) ?_
                      refine w_iushrE rfl ?_
                      have g49 : inr (usI (z48) (8)) := toI_inr _
                      refine Ew_of (pcₚ := 228) (fun _ => x_sipush (z := 255) rfl (by decide)) ?_
                      refine v_and255 rfl ?_
                      have hs6 : (((usI (z48) (8)) % 256)) = THs (ub8 ((w1))) ((a1)) (((((a1 + 6) + 0) + 4))) := by have h := u8_us8 (z48); unfold u8 at h; unfold THs; rw [NSM_ub (by omega), show ((((a1 + 6) + 0) + 4)) - ((a1) + 4) = ((((a1 + 6) + 0) + 4)) - ((a1) + 4) from rfl, ← hns]; omega
                      refine w_icmpeq (t := 240) rfl rfl (show inr ((v47 % 256)) from q_461) (show inr (((usI (z48) (8)) % 256)) from q_461) (fun b50 => ?_) (fun b50 => ?_)
                      · refine Ew_of (pcₚ := 241) (fun _ => x_aload_n rfl (rk_o (rk_o (rfl) rfl rfl) rfl rfl)) ?_
                        refine Ew_of (pcₚ := 242) (fun _ => x_iconst rfl) ?_
                        refine Ew_of (pcₚ := 244) (fun _ => x_bipush (z := 8) rfl (by decide)) ?_
                        refine Ew_of (pcₚ := 245) (fun _ => x_iconst rfl) ?_
                        refine Ew_of (pcₚ := 246) (fun _ => x_iload_n rfl (rk_o (rk_s) rfl rfl)) ?_
                        refine w_imul rfl ?_
                        refine w_iadd rfl ?_
                        have hp16 : p2 (((8 + (2 * z18)))) ≤ p2 22 := p2_mono (by omega)
                        have hp17 : p2 16 ≤ p2 (((8 + (2 * z18)))) := p2_mono (by omega)
                        have : p2 22 = 4194304 := by decide
                        have : p2 16 = 65536 := by decide
                        have := p2_pos (((8 + (2 * z18))))
                        refine w_ishl1 rfl (show 0 ≤ (8 + (2 * z18)) ∧ (8 + (2 * z18)) ≤ 31 from q_3273 b24 b27) ?_
                        refine v_p H (o := 0) (z := p2 ((8 + (2 * z18)))) (v := I (p2 ((8 + (2 * z18))))) rfl rfl rfl rfl rfl rfl rfl rfl (show (-2147483648 : Int) ≤ p2 ((8 + (2 * z18))) ∧ p2 ((8 + (2 * z18))) ≤ 2147483647 by omega) (fun σ H Oₚ => ?_)
                        have O := OUT_trans O Oₚ
                        have cFu52 : SF oz_D5clsl_0 F (updF F48 0 9 (p2 ((8 + (2 * z18))))) := SF_upd (cF48) rfl
                        have mFu52 := SFm_of cFu52 oz_D5cls_6
                        refine Ew_of (pcₚ := 253) (fun _ => x_aload_n rfl (rk_o (rk_o (rfl) rfl rfl) rfl rfl)) ?_
                        refine Ew_of (pcₚ := 254) (fun _ => x_aload_n rfl (rk_o (rk_o (rfl) rfl rfl) rfl rfl)) ?_
                        refine v_g H (o := 0) (v := .ref (D 2)) rfl rfl rfl rfl rfl (vrf ((mFu52 0 6 rfl).trans (pf2))) ?_
                        refine v_g H (o := 2) (v := I (u2_1)) rfl rfl rfl rfl rfl (congrArg (fun z : Int => I z) (((mFu52 2 1 rfl).trans (eu2_1)) : (updF F48 0 9 (p2 ((8 + (2 * z18))))) 2 1 = u2_1)) ?_
                        refine v_p H (o := 0) (z := u2_1) (v := I (u2_1)) rfl rfl rfl rfl rfl rfl rfl rfl (show (-2147483648 : Int) ≤ u2_1 ∧ u2_1 ≤ 2147483647 from r6) (fun σ H Oₚ => ?_)
                        have O := OUT_trans O Oₚ
                        have cFu53 : SF oz_D5clsl_0 F (updF (updF F48 0 9 (p2 ((8 + (2 * z18))))) 0 10 (u2_1)) := SF_upd (cFu52) rfl
                        have mFu53 := SFm_of cFu53 oz_D5cls_6
                        refine Ew_of (pcₚ := 264) (fun _ => x_aload_n rfl (rk_o (rk_o (rfl) rfl rfl) rfl rfl)) ?_
                        refine Ew_of (pcₚ := 265) (fun _ => x_iconst rfl) ?_
                        refine Ew_of (pcₚ := 266) (fun _ => x_iload_n rfl rk_s) ?_
                        refine Ew_of (pcₚ := 267) (fun _ => x_iconst rfl) ?_
                        refine w_iadd rfl ?_
                        refine v_inv H (o := 0) rfl rfl rfl rfl rfl rfl (by rfl) (C221 (D := puc 0 D) (N := puc 0 N) (HW_subc H oz_D5cls_4 oz_D5cls_10) (u0_12) ((((((show F48 0 12 = F14 0 12 from (eF48 0 12))).trans ((show F14 0 12 = (updF F9 0 8 ((v12 % 256))) 0 12 from (eF14 0 12)))).trans ((show F9 0 12 = F 0 12 from (eF9 0 12)))).trans (eu0_12))) (show inr (0) from q_2) (show inr (((((a1 + 6) + 0) + 4) + 1)) from q_3285 b46 h1 h2) (fun z54 σ54 F54ₚ A54ₚ Hₚ Oₚ hS54 hA54 y54_0_12 ey54_0_12 pz54_0 pz54_1 pz54_2 => ⟨rfl, ?_⟩))
                        refine v_backc (c := c) (s := s) H oz_D5cls_4 oz_D5cls_10 Hₚ Oₚ (fun F54 A54 H Oₚ eF54 eA54 => ?_)
                        have O := OUT_trans O Oₚ
                        -- Tokens.fail
                        have cF54 : SF oz_D5clsl_0 F F54 := SF_trans (cFu53) (SF_gluc (ι := oz_D5clsl_3) oz_D5cls_10 hS54 eF54 (by decide +kernel)) (any_sub (lₚ := [(0, 12)]) (by decide +kernel))
                        have mF54 := SFm_of cF54 oz_D5cls_6
                        have cA54 : SA oz_D5clsl_1 A A54 := SA_trans (cA48) (SA_gluc (ι := oz_D5clsl_3) oz_D5cls_10 hA54 eA54 (by decide +kernel)) (any_subA (lₚ := []) (by decide +kernel))
                        have mA54 := SAm_of cA54 oz_D5cls_7
                        have r55 : (-2147483648 : Int) ≤ y54_0_12 ∧ y54_0_12 ≤ 2147483647 := rngE (show (-2147483648 : Int) ≤ F54 0 12 ∧ F54 0 12 ≤ 2147483647 from H.krg 0 12 (ltn len_V227_oz_D5cls rfl)) (show F54 0 12 = y54_0_12 from ((eF54 0 12).trans ey54_0_12))
                        have : IMP (nvl (ub8 ((w1))) ((a1)) 4 = 407708164) (THd (ub8 ((w1))) ((u0_5)) ((a1)) ((z54)) ((y54_0_12)) (((v12 % 256))) ((p2 ((8 + (2 * z18)))))) := fun _ => THd_0 hTQ hHe (by omega) hv6 hs6 (by omega) (by omega) (by omega) rfl (by rw [← hk4])
                        have : IMP (nvl (ub8 ((w1))) ((a1)) 4 ≠ 407708164) ((z54) = 4 ∧ (y54_0_12) = (a1)) := fun z => absurd hmk z
                        exact w_ireturn rfl (k (z54) _ _ _ H O (cF54) (cA54) ((v12 % 256)) (((((show F54 0 8 = (updF (updF F48 0 9 (p2 ((8 + (2 * z18))))) 0 10 (u2_1)) 0 8 from (eF54 0 8).trans (hS54 0 8 rfl))).trans ((show F48 0 8 = F14 0 8 from (eF48 0 8)))).trans ((show F14 0 8 = (updF F9 0 8 ((v12 % 256))) 0 8 from (eF14 0 8))))) (p2 ((8 + (2 * z18)))) (((show F54 0 9 = (updF (updF F48 0 9 (p2 ((8 + (2 * z18))))) 0 10 (u2_1)) 0 9 from (eF54 0 9).trans (hS54 0 9 rfl)))) (u2_1) (((show F54 0 10 = (updF (updF F48 0 9 (p2 ((8 + (2 * z18))))) 0 10 (u2_1)) 0 10 from (eF54 0 10).trans (hS54 0 10 rfl)))) (y54_0_12) (((eF54 0 12).trans ey54_0_12)) (show inr (z54) from pz54_0) (show 0 ≤ (z54) ∧ (z54) ≤ 6 from q_3228 pz54_1) (show (z54) = 0 → a1 + 7 ≤ (y54_0_12) ∧ (y54_0_12) ≤ (u0_5) ∧ (u2_1) = (u2_1) ∧ 65536 ≤ (p2 ((8 + (2 * z18)))) ∧ (p2 ((8 + (2 * z18)))) ≤ 4194304 by omega) (show (z54) = 0 → andI (((v12 % 256))) 8 = 0 ∨ a1 + 14 ≤ (u0_5) from q_3275 b29 gez28) (show IMP (nvl (ub8 ((w1))) (a1) 4 = 407708164) (THd (ub8 ((w1))) ((u0_5)) (a1) ((z54)) ((y54_0_12)) (((v12 % 256))) ((p2 ((8 + (2 * z18)))))) by assumption) (show IMP (nvl (ub8 ((w1))) (a1) 4 ≠ 407708164) ((z54) = 4 ∧ (y54_0_12) = a1) by assumption))
                      · refine Ew_of (pcₚ := 233) (fun _ => x_aload_n rfl (rk_o (rk_o (rfl) rfl rfl) rfl rfl)) ?_
                        refine Ew_of (pcₚ := 235) (fun _ => x_bipush (z := 6) rfl (by decide)) ?_
                        refine Ew_of (pcₚ := 236) (fun _ => x_iload_n rfl rk_s) ?_
                        refine v_inv H (o := 0) rfl rfl rfl rfl rfl rfl (by rfl) (C221 (D := puc 0 D) (N := puc 0 N) (HW_subc H oz_D5cls_4 oz_D5cls_10) (u0_12) ((((((show F48 0 12 = F14 0 12 from (eF48 0 12))).trans ((show F14 0 12 = (updF F9 0 8 ((v12 % 256))) 0 12 from (eF14 0 12)))).trans ((show F9 0 12 = F 0 12 from (eF9 0 12)))).trans (eu0_12))) (show inr (6) from q_756) (show inr ((((a1 + 6) + 0) + 4)) from q_3283 b46 h1 h2) (fun z56 σ56 F56ₚ A56ₚ Hₚ Oₚ hS56 hA56 y56_0_12 ey56_0_12 pz56_0 pz56_1 pz56_2 => ⟨rfl, ?_⟩))
                        refine v_backc (c := c) (s := s) H oz_D5cls_4 oz_D5cls_10 Hₚ Oₚ (fun F56 A56 H Oₚ eF56 eA56 => ?_)
                        have O := OUT_trans O Oₚ
                        -- Tokens.fail
                        have cF56 : SF oz_D5clsl_0 F F56 := SF_trans (cF48) (SF_gluc (ι := oz_D5clsl_3) oz_D5cls_10 hS56 eF56 (by decide +kernel)) (any_sub (lₚ := [(0, 12)]) (by decide +kernel))
                        have mF56 := SFm_of cF56 oz_D5cls_6
                        have cA56 : SA oz_D5clsl_1 A A56 := SA_trans (cA48) (SA_gluc (ι := oz_D5clsl_3) oz_D5cls_10 hA56 eA56 (by decide +kernel)) (any_subA (lₚ := []) (by decide +kernel))
                        have mA56 := SAm_of cA56 oz_D5cls_7
                        have r57 : (-2147483648 : Int) ≤ y56_0_12 ∧ y56_0_12 ≤ 2147483647 := rngE (show (-2147483648 : Int) ≤ F56 0 12 ∧ F56 0 12 ≤ 2147483647 from H.krg 0 12 (ltn len_V227_oz_D5cls rfl)) (show F56 0 12 = y56_0_12 from ((eF56 0 12).trans ey56_0_12))
                        have : IMP (nvl (ub8 ((w1))) ((a1)) 4 = 407708164) (THd (ub8 ((w1))) ((u0_5)) ((a1)) ((z56)) ((y56_0_12)) (((v12 % 256))) ((u0_9))) := fun _ => THd_8 hTQ hHe (by omega) hv6 hs6 (by omega) (by omega) (by omega)
                        have : IMP (nvl (ub8 ((w1))) ((a1)) 4 ≠ 407708164) ((z56) = 4 ∧ (y56_0_12) = (a1)) := fun z => absurd hmk z
                        exact w_ireturn rfl (k (z56) _ _ _ H O (cF56) (cA56) ((v12 % 256)) (((((show F56 0 8 = F48 0 8 from (eF56 0 8).trans (hS56 0 8 rfl))).trans ((show F48 0 8 = F14 0 8 from (eF48 0 8)))).trans ((show F14 0 8 = (updF F9 0 8 ((v12 % 256))) 0 8 from (eF14 0 8))))) (u0_9) (((((((show F56 0 9 = F48 0 9 from (eF56 0 9).trans (hS56 0 9 rfl))).trans ((show F48 0 9 = F14 0 9 from (eF48 0 9)))).trans ((show F14 0 9 = (updF F9 0 8 ((v12 % 256))) 0 9 from (eF14 0 9)))).trans ((show F9 0 9 = F 0 9 from (eF9 0 9)))).trans (eu0_9))) (u0_10) (((((((show F56 0 10 = F48 0 10 from (eF56 0 10).trans (hS56 0 10 rfl))).trans ((show F48 0 10 = F14 0 10 from (eF48 0 10)))).trans ((show F14 0 10 = (updF F9 0 8 ((v12 % 256))) 0 10 from (eF14 0 10)))).trans ((show F9 0 10 = F 0 10 from (eF9 0 10)))).trans (eu0_10))) (y56_0_12) (((eF56 0 12).trans ey56_0_12)) (show inr (z56) from pz56_0) (show 0 ≤ (z56) ∧ (z56) ≤ 6 from q_3230 pz56_1) (show (z56) = 0 → a1 + 7 ≤ (y56_0_12) ∧ (y56_0_12) ≤ (u0_5) ∧ (u0_10) = (u2_1) ∧ 65536 ≤ (u0_9) ∧ (u0_9) ≤ 4194304 from q_3286 b46 h3 pz56_1 pz56_2 r3 r4) (show (z56) = 0 → andI (((v12 % 256))) 8 = 0 ∨ a1 + 14 ≤ (u0_5) from q_3276 pz56_1) (show IMP (nvl (ub8 ((w1))) (a1) 4 = 407708164) (THd (ub8 ((w1))) ((u0_5)) (a1) ((z56)) ((y56_0_12)) (((v12 % 256))) ((u0_9))) by assumption) (show IMP (nvl (ub8 ((w1))) (a1) 4 ≠ 407708164) ((z56) = 4 ∧ (y56_0_12) = a1) by assumption))
                    · refine Ew_of (pcₚ := 191) (fun _ => x_aload_n rfl (rk_o (rk_o (rfl) rfl rfl) rfl rfl)) ?_
                      refine Ew_of (pcₚ := 192) (fun _ => x_iconst rfl) ?_
                      refine Ew_of (pcₚ := 193) (fun _ => x_aload_n rfl (rk_o (rk_o (rfl) rfl rfl) rfl rfl)) ?_
                      refine v_g H (o := 0) (v := I (u0_5)) rfl rfl rfl rfl rfl (congrArg (fun z : Int => I z) (((mF14 0 5 rfl).trans (eu0_5)) : F14 0 5 = u0_5)) ?_
                      refine v_inv H (o := 0) rfl rfl rfl rfl rfl rfl (by rfl) (C221 (D := puc 0 D) (N := puc 0 N) (HW_subc H oz_D5cls_4 oz_D5cls_10) (u0_12) (((((show F14 0 12 = (updF F9 0 8 ((v12 % 256))) 0 12 from (eF14 0 12))).trans ((show F9 0 12 = F 0 12 from (eF9 0 12)))).trans (eu0_12))) (show inr (1) from q_135) (show inr (u0_5) from q_38 h1) (fun z58 σ58 F58ₚ A58ₚ Hₚ Oₚ hS58 hA58 y58_0_12 ey58_0_12 pz58_0 pz58_1 pz58_2 => ⟨rfl, ?_⟩))
                      refine v_backc (c := c) (s := s) H oz_D5cls_4 oz_D5cls_10 Hₚ Oₚ (fun F58 A58 H Oₚ eF58 eA58 => ?_)
                      have O := OUT_trans O Oₚ
                      -- Tokens.fail
                      have cF58 : SF oz_D5clsl_0 F F58 := SF_trans (cF14) (SF_gluc (ι := oz_D5clsl_3) oz_D5cls_10 hS58 eF58 (by decide +kernel)) (any_sub (lₚ := [(0, 12)]) (by decide +kernel))
                      have mF58 := SFm_of cF58 oz_D5cls_6
                      have cA58 : SA oz_D5clsl_1 A A58 := SA_trans (cA14) (SA_gluc (ι := oz_D5clsl_3) oz_D5cls_10 hA58 eA58 (by decide +kernel)) (any_subA (lₚ := []) (by decide +kernel))
                      have mA58 := SAm_of cA58 oz_D5cls_7
                      have r59 : (-2147483648 : Int) ≤ y58_0_12 ∧ y58_0_12 ≤ 2147483647 := rngE (show (-2147483648 : Int) ≤ F58 0 12 ∧ F58 0 12 ≤ 2147483647 from H.krg 0 12 (ltn len_V227_oz_D5cls rfl)) (show F58 0 12 = y58_0_12 from ((eF58 0 12).trans ey58_0_12))
                      have : IMP (nvl (ub8 ((w1))) ((a1)) 4 = 407708164) (THd (ub8 ((w1))) ((u0_5)) ((a1)) ((z58)) ((y58_0_12)) (((v12 % 256))) ((u0_9))) := fun _ => THd_7 hTQ hHe (by omega) (by omega) (by omega)
                      have : IMP (nvl (ub8 ((w1))) ((a1)) 4 ≠ 407708164) ((z58) = 4 ∧ (y58_0_12) = (a1)) := fun z => absurd hmk z
                      exact w_ireturn rfl (k (z58) _ _ _ H O (cF58) (cA58) ((v12 % 256)) ((((show F58 0 8 = F14 0 8 from (eF58 0 8).trans (hS58 0 8 rfl))).trans ((show F14 0 8 = (updF F9 0 8 ((v12 % 256))) 0 8 from (eF14 0 8))))) (u0_9) ((((((show F58 0 9 = F14 0 9 from (eF58 0 9).trans (hS58 0 9 rfl))).trans ((show F14 0 9 = (updF F9 0 8 ((v12 % 256))) 0 9 from (eF14 0 9)))).trans ((show F9 0 9 = F 0 9 from (eF9 0 9)))).trans (eu0_9))) (u0_10) ((((((show F58 0 10 = F14 0 10 from (eF58 0 10).trans (hS58 0 10 rfl))).trans ((show F14 0 10 = (updF F9 0 8 ((v12 % 256))) 0 10 from (eF14 0 10)))).trans ((show F9 0 10 = F 0 10 from (eF9 0 10)))).trans (eu0_10))) (y58_0_12) (((eF58 0 12).trans ey58_0_12)) (show inr (z58) from pz58_0) (show 0 ≤ (z58) ∧ (z58) ≤ 6 from q_3240 pz58_1) (show (z58) = 0 → a1 + 7 ≤ (y58_0_12) ∧ (y58_0_12) ≤ (u0_5) ∧ (u0_10) = (u2_1) ∧ 65536 ≤ (u0_9) ∧ (u0_9) ≤ 4194304 from q_3279 b16 h3 pz58_1 pz58_2 r3 r4) (show (z58) = 0 → andI (((v12 % 256))) 8 = 0 ∨ a1 + 14 ≤ (u0_5) from q_3278 pz58_1) (show IMP (nvl (ub8 ((w1))) (a1) 4 = 407708164) (THd (ub8 ((w1))) ((u0_5)) (a1) ((z58)) ((y58_0_12)) (((v12 % 256))) ((u0_9))) by assumption) (show IMP (nvl (ub8 ((w1))) (a1) 4 ≠ 407708164) ((z58) = 4 ∧ (y58_0_12) = a1) by assumption))
                · refine Ew_of (pcₚ := 161) (fun _ => x_bipush (z := 8) rfl (by decide)) ?_
                  refine Ew_of (pcₚ := 165) (fun _ => x_goto rfl rfl) ?_
                  refine w_iadd rfl ?_
                  refine Ew_of (pcₚ := 167) (fun _ => x_aload_n rfl (rk_o (rfl) rfl rfl)) ?_
                  refine v_g H (o := 0) (v := I ((v12 % 256))) rfl rfl rfl rfl rfl (congrArg (fun z : Int => I z) (((show F14 0 8 = (updF F9 0 8 ((v12 % 256))) 0 8 from (eF14 0 8))) : F14 0 8 = (v12 % 256))) ?_
                  refine Ew_of (pcₚ := 171) (fun _ => x_iconst rfl) ?_
                  refine w_iandE rfl (show inr ((v12 % 256)) from q_3262 hfr) (show inr (1) from q_135) (fun z60 gz60 gaz60 gbz60 gez60 => ?_)
                  refine w_ifeq (t := 179) rfl rfl (show inr (z60) from gz60) (fun b61 => ?_) (fun b61 => ?_)
                  · refine Ew_of (pcₚ := 180) (fun _ => x_iconst rfl) ?_
                    refine w_iadd rfl ?_
                    refine Ew_of (pcₚ := 182) (fun _ => x_istore_n rfl) ?_
                    have hHe : ((((a1 + 6) + 8) + 0)) = THe ((a1)) (((v12 % 256))) := by unfold THe; first | (rw [if_pos (by omega), if_pos (by omega)] <;> omega) | (rw [if_pos (by omega), if_neg (by omega)] <;> omega) | (rw [if_neg (by omega), if_pos (by omega)] <;> omega) | (rw [if_neg (by omega), if_neg (by omega)] <;> omega)
                    refine Ew_of (pcₚ := 183) (fun _ => x_iload_n rfl rk_s) ?_
                    refine Ew_of (pcₚ := 184) (fun _ => x_aload_n rfl (rk_o (rk_o (rfl) rfl rfl) rfl rfl)) ?_
                    refine v_g H (o := 0) (v := I (u0_5)) rfl rfl rfl rfl rfl (congrArg (fun z : Int => I z) (((mF14 0 5 rfl).trans (eu0_5)) : F14 0 5 = u0_5)) ?_
                    refine w_icmplt (t := 200) rfl rfl (show inr ((((a1 + 6) + 8) + 0)) from q_3287 b16 h1 h2) (show inr (u0_5) from q_38 h1) (fun b62 => ?_) (fun b62 => ?_)
                    · refine Ew_of (pcₚ := 201) (fun _ => x_aload_n rfl (rk_o (rk_o (rfl) rfl rfl) rfl rfl)) ?_
                      refine v_g H (o := 0) (v := .ref (D 1)) rfl rfl rfl rfl rfl (vrf ((mF14 0 4 rfl).trans (pf1))) ?_
                      refine Ew_of (pcₚ := 205) (fun _ => x_iload_n rfl rk_s) ?_
                      refine v_lB H (o := 1) rfl rfl rfl rfl (n := n1) (en1) (show 0 ≤ (((a1 + 6) + 8) + 0) ∧ (((a1 + 6) + 8) + 0) < n1 from q_3288 b62 h1 h2) (fun v63 ev63 qv63 => ?_)
                      have ev63 : (w1) ((((a1 + 6) + 8) + 0)) = v63 := (congrFun ((funext (mA14 1 rfl)).trans (ew1)) ((((a1 + 6) + 8) + 0))).symm.trans ev63
                      have hve := ev63
                      refine Ew_of (pcₚ := 209) (fun _ => x_sipush (z := 255) rfl (by decide)) ?_
                      refine v_and255 rfl ?_
                      have hv6 : (ub8 ((w1))) (((((a1 + 6) + 8) + 0))) = ((v63 % 256)) := ub_eq hve rfl
                      refine Ew_of (pcₚ := 211) (fun _ => x_aload_n rfl (rk_o (rk_o (rfl) rfl rfl) rfl rfl)) ?_
                      refine v_g H (o := 0) (v := .ref (D 1)) rfl rfl rfl rfl rfl (vrf ((mF14 0 4 rfl).trans (pf1))) ?_
                      refine Ew_of (pcₚ := 215) (fun _ => x_iload_n rfl (rk_o (rk_o (rfl) rfl rfl) rfl rfl)) ?_
                      refine Ew_of (pcₚ := 216) (fun _ => x_iconst rfl) ?_
                      refine w_iadd rfl ?_
                      refine Ew_of (pcₚ := 218) (fun _ => x_iload_n rfl rk_s) ?_
                      refine Ew_of (pcₚ := 219) (fun _ => x_iconst rfl) ?_
                      refine w_stat25 rfl rfl (by rfl) (C49_Br (D := puc 1 D) (N := puc 1 N) (HW_subc H oz_D5cls_5 oz_D5cls_8) (n1) (en1) (w1) ((funext (mA14 1 rfl)).trans (ew1)) (show inr ((a1 + 4)) from q_3291 b62 h1 h2) (show inr ((((a1 + 6) + 8) + 0)) from q_3290 b62 h1 h2) (show inr (0) from q_2) (show 0 ≤ ((a1 + 4)) ∧ ((a1 + 4)) ≤ ((((a1 + 6) + 8) + 0)) ∧ ((((a1 + 6) + 8) + 0)) ≤ (n1) from q_3289 b62 h1 h2) (fun z64 σ64 F64ₚ A64ₚ Hₚ Oₚ hS64 hA64 pz64_0 pz64_1 => ⟨rfl, ?_⟩))
                      refine v_backc (c := c) (s := s) H oz_D5cls_5 oz_D5cls_8 Hₚ Oₚ (fun F64 A64 H Oₚ eF64 eA64 => ?_)
                      have O := OUT_trans O Oₚ
                      -- PackHouse.narrowSum
                      have cF64 : SF oz_D5clsl_0 F F64 := SF_trans (cF14) (SF_gluc (ι := oz_D5clsl_2) oz_D5cls_8 hS64 eF64 (by decide +kernel)) (any_sub (lₚ := []) (by decide +kernel))
                      have mF64 := SFm_of cF64 oz_D5cls_6
                      have cA64 : SA oz_D5clsl_1 A A64 := SA_trans (cA14) (SA_gluc (ι := oz_D5clsl_2) oz_D5cls_8 hA64 eA64 (by decide +kernel)) (any_subA (lₚ := []) (by decide +kernel))
                      have mA64 := SAm_of cA64 oz_D5cls_7
                      have hns := pz64_1
                      refine Ew_of (pcₚ := 224) (fun _ => x_bipush (z := 8) rfl (by decide)) ?_
                      refine w_iushrE rfl ?_
                      have g65 : inr (usI (z64) (8)) := toI_inr _
                      refine Ew_of (pcₚ := 228) (fun _ => x_sipush (z := 255) rfl (by decide)) ?_
                      refine v_and255 rfl ?_
                      have hs6 : (((usI (z64) (8)) % 256)) = THs (ub8 ((w1))) ((a1)) (((((a1 + 6) + 8) + 0))) := by have h := u8_us8 (z64); unfold u8 at h; unfold THs; rw [NSM_ub (by omega), show ((((a1 + 6) + 8) + 0)) - ((a1) + 4) = ((((a1 + 6) + 8) + 0)) - ((a1) + 4) from rfl, ← hns]; omega
                      refine w_icmpeq (t := 240) rfl rfl (show inr ((v63 % 256)) from q_461) (show inr (((usI (z64) (8)) % 256)) from q_461) (fun b66 => ?_) (fun b66 => ?_)
                      · refine Ew_of (pcₚ := 241) (fun _ => x_aload_n rfl (rk_o (rk_o (rfl) rfl rfl) rfl rfl)) ?_
                        refine Ew_of (pcₚ := 242) (fun _ => x_iconst rfl) ?_
                        refine Ew_of (pcₚ := 244) (fun _ => x_bipush (z := 8) rfl (by decide)) ?_
                        refine Ew_of (pcₚ := 245) (fun _ => x_iconst rfl) ?_
                        refine Ew_of (pcₚ := 246) (fun _ => x_iload_n rfl (rk_o (rk_s) rfl rfl)) ?_
                        refine w_imul rfl ?_
                        refine w_iadd rfl ?_
                        have hp16 : p2 (((8 + (2 * z18)))) ≤ p2 22 := p2_mono (by omega)
                        have hp17 : p2 16 ≤ p2 (((8 + (2 * z18)))) := p2_mono (by omega)
                        have : p2 22 = 4194304 := by decide
                        have : p2 16 = 65536 := by decide
                        have := p2_pos (((8 + (2 * z18))))
                        refine w_ishl1 rfl (show 0 ≤ (8 + (2 * z18)) ∧ (8 + (2 * z18)) ≤ 31 from q_3273 b24 b27) ?_
                        refine v_p H (o := 0) (z := p2 ((8 + (2 * z18)))) (v := I (p2 ((8 + (2 * z18))))) rfl rfl rfl rfl rfl rfl rfl rfl (show (-2147483648 : Int) ≤ p2 ((8 + (2 * z18))) ∧ p2 ((8 + (2 * z18))) ≤ 2147483647 by omega) (fun σ H Oₚ => ?_)
                        have O := OUT_trans O Oₚ
                        have cFu68 : SF oz_D5clsl_0 F (updF F64 0 9 (p2 ((8 + (2 * z18))))) := SF_upd (cF64) rfl
                        have mFu68 := SFm_of cFu68 oz_D5cls_6
                        refine Ew_of (pcₚ := 253) (fun _ => x_aload_n rfl (rk_o (rk_o (rfl) rfl rfl) rfl rfl)) ?_
                        refine Ew_of (pcₚ := 254) (fun _ => x_aload_n rfl (rk_o (rk_o (rfl) rfl rfl) rfl rfl)) ?_
                        refine v_g H (o := 0) (v := .ref (D 2)) rfl rfl rfl rfl rfl (vrf ((mFu68 0 6 rfl).trans (pf2))) ?_
                        refine v_g H (o := 2) (v := I (u2_1)) rfl rfl rfl rfl rfl (congrArg (fun z : Int => I z) (((mFu68 2 1 rfl).trans (eu2_1)) : (updF F64 0 9 (p2 ((8 + (2 * z18))))) 2 1 = u2_1)) ?_
                        refine v_p H (o := 0) (z := u2_1) (v := I (u2_1)) rfl rfl rfl rfl rfl rfl rfl rfl (show (-2147483648 : Int) ≤ u2_1 ∧ u2_1 ≤ 2147483647 from r6) (fun σ H Oₚ => ?_)
                        have O := OUT_trans O Oₚ
                        have cFu69 : SF oz_D5clsl_0 F (updF (updF F64 0 9 (p2 ((8 + (2 * z18))))) 0 10 (u2_1)) := SF_upd (cFu68) rfl
                        have mFu69 := SFm_of cFu69 oz_D5cls_6
                        refine Ew_of (pcₚ := 264) (fun _ => x_aload_n rfl (rk_o (rk_o (rfl) rfl rfl) rfl rfl)) ?_
                        refine Ew_of (pcₚ := 265) (fun _ => x_iconst rfl) ?_
                        refine Ew_of (pcₚ := 266) (fun _ => x_iload_n rfl rk_s) ?_
                        refine Ew_of (pcₚ := 267) (fun _ => x_iconst rfl) ?_
                        refine w_iadd rfl ?_
                        refine v_inv H (o := 0) rfl rfl rfl rfl rfl rfl (by rfl) (C221 (D := puc 0 D) (N := puc 0 N) (HW_subc H oz_D5cls_4 oz_D5cls_10) (u0_12) ((((((show F64 0 12 = F14 0 12 from (eF64 0 12))).trans ((show F14 0 12 = (updF F9 0 8 ((v12 % 256))) 0 12 from (eF14 0 12)))).trans ((show F9 0 12 = F 0 12 from (eF9 0 12)))).trans (eu0_12))) (show inr (0) from q_2) (show inr (((((a1 + 6) + 8) + 0) + 1)) from q_3292 b62 h1 h2) (fun z70 σ70 F70ₚ A70ₚ Hₚ Oₚ hS70 hA70 y70_0_12 ey70_0_12 pz70_0 pz70_1 pz70_2 => ⟨rfl, ?_⟩))
                        refine v_backc (c := c) (s := s) H oz_D5cls_4 oz_D5cls_10 Hₚ Oₚ (fun F70 A70 H Oₚ eF70 eA70 => ?_)
                        have O := OUT_trans O Oₚ
                        -- Tokens.fail
                        have cF70 : SF oz_D5clsl_0 F F70 := SF_trans (cFu69) (SF_gluc (ι := oz_D5clsl_3) oz_D5cls_10 hS70 eF70 (by decide +kernel)) (any_sub (lₚ := [(0, 12)]) (by decide +kernel))
                        have mF70 := SFm_of cF70 oz_D5cls_6
                        have cA70 : SA oz_D5clsl_1 A A70 := SA_trans (cA64) (SA_gluc (ι := oz_D5clsl_3) oz_D5cls_10 hA70 eA70 (by decide +kernel)) (any_subA (lₚ := []) (by decide +kernel))
                        have mA70 := SAm_of cA70 oz_D5cls_7
                        have r71 : (-2147483648 : Int) ≤ y70_0_12 ∧ y70_0_12 ≤ 2147483647 := rngE (show (-2147483648 : Int) ≤ F70 0 12 ∧ F70 0 12 ≤ 2147483647 from H.krg 0 12 (ltn len_V227_oz_D5cls rfl)) (show F70 0 12 = y70_0_12 from ((eF70 0 12).trans ey70_0_12))
                        have : IMP (nvl (ub8 ((w1))) ((a1)) 4 = 407708164) (THd (ub8 ((w1))) ((u0_5)) ((a1)) ((z70)) ((y70_0_12)) (((v12 % 256))) ((p2 ((8 + (2 * z18)))))) := fun _ => THd_0 hTQ hHe (by omega) hv6 hs6 (by omega) (by omega) (by omega) rfl (by rw [← hk4])
                        have : IMP (nvl (ub8 ((w1))) ((a1)) 4 ≠ 407708164) ((z70) = 4 ∧ (y70_0_12) = (a1)) := fun z => absurd hmk z
                        exact w_ireturn rfl (k (z70) _ _ _ H O (cF70) (cA70) ((v12 % 256)) (((((show F70 0 8 = (updF (updF F64 0 9 (p2 ((8 + (2 * z18))))) 0 10 (u2_1)) 0 8 from (eF70 0 8).trans (hS70 0 8 rfl))).trans ((show F64 0 8 = F14 0 8 from (eF64 0 8)))).trans ((show F14 0 8 = (updF F9 0 8 ((v12 % 256))) 0 8 from (eF14 0 8))))) (p2 ((8 + (2 * z18)))) (((show F70 0 9 = (updF (updF F64 0 9 (p2 ((8 + (2 * z18))))) 0 10 (u2_1)) 0 9 from (eF70 0 9).trans (hS70 0 9 rfl)))) (u2_1) (((show F70 0 10 = (updF (updF F64 0 9 (p2 ((8 + (2 * z18))))) 0 10 (u2_1)) 0 10 from (eF70 0 10).trans (hS70 0 10 rfl)))) (y70_0_12) (((eF70 0 12).trans ey70_0_12)) (show inr (z70) from pz70_0) (show 0 ≤ (z70) ∧ (z70) ≤ 6 from q_3228 pz70_1) (show (z70) = 0 → a1 + 7 ≤ (y70_0_12) ∧ (y70_0_12) ≤ (u0_5) ∧ (u2_1) = (u2_1) ∧ 65536 ≤ (p2 ((8 + (2 * z18)))) ∧ (p2 ((8 + (2 * z18)))) ≤ 4194304 by omega) (show (z70) = 0 → andI (((v12 % 256))) 8 = 0 ∨ a1 + 14 ≤ (u0_5) from q_3293 b62) (show IMP (nvl (ub8 ((w1))) (a1) 4 = 407708164) (THd (ub8 ((w1))) ((u0_5)) (a1) ((z70)) ((y70_0_12)) (((v12 % 256))) ((p2 ((8 + (2 * z18)))))) by assumption) (show IMP (nvl (ub8 ((w1))) (a1) 4 ≠ 407708164) ((z70) = 4 ∧ (y70_0_12) = a1) by assumption))
                      · refine Ew_of (pcₚ := 233) (fun _ => x_aload_n rfl (rk_o (rk_o (rfl) rfl rfl) rfl rfl)) ?_
                        refine Ew_of (pcₚ := 235) (fun _ => x_bipush (z := 6) rfl (by decide)) ?_
                        refine Ew_of (pcₚ := 236) (fun _ => x_iload_n rfl rk_s) ?_
                        refine v_inv H (o := 0) rfl rfl rfl rfl rfl rfl (by rfl) (C221 (D := puc 0 D) (N := puc 0 N) (HW_subc H oz_D5cls_4 oz_D5cls_10) (u0_12) ((((((show F64 0 12 = F14 0 12 from (eF64 0 12))).trans ((show F14 0 12 = (updF F9 0 8 ((v12 % 256))) 0 12 from (eF14 0 12)))).trans ((show F9 0 12 = F 0 12 from (eF9 0 12)))).trans (eu0_12))) (show inr (6) from q_756) (show inr ((((a1 + 6) + 8) + 0)) from q_3290 b62 h1 h2) (fun z72 σ72 F72ₚ A72ₚ Hₚ Oₚ hS72 hA72 y72_0_12 ey72_0_12 pz72_0 pz72_1 pz72_2 => ⟨rfl, ?_⟩))
                        refine v_backc (c := c) (s := s) H oz_D5cls_4 oz_D5cls_10 Hₚ Oₚ (fun F72 A72 H Oₚ eF72 eA72 => ?_)
                        have O := OUT_trans O Oₚ
                        -- Tokens.fail
                        have cF72 : SF oz_D5clsl_0 F F72 := SF_trans (cF64) (SF_gluc (ι := oz_D5clsl_3) oz_D5cls_10 hS72 eF72 (by decide +kernel)) (any_sub (lₚ := [(0, 12)]) (by decide +kernel))
                        have mF72 := SFm_of cF72 oz_D5cls_6
                        have cA72 : SA oz_D5clsl_1 A A72 := SA_trans (cA64) (SA_gluc (ι := oz_D5clsl_3) oz_D5cls_10 hA72 eA72 (by decide +kernel)) (any_subA (lₚ := []) (by decide +kernel))
                        have mA72 := SAm_of cA72 oz_D5cls_7
                        have r73 : (-2147483648 : Int) ≤ y72_0_12 ∧ y72_0_12 ≤ 2147483647 := rngE (show (-2147483648 : Int) ≤ F72 0 12 ∧ F72 0 12 ≤ 2147483647 from H.krg 0 12 (ltn len_V227_oz_D5cls rfl)) (show F72 0 12 = y72_0_12 from ((eF72 0 12).trans ey72_0_12))
                        have : IMP (nvl (ub8 ((w1))) ((a1)) 4 = 407708164) (THd (ub8 ((w1))) ((u0_5)) ((a1)) ((z72)) ((y72_0_12)) (((v12 % 256))) ((u0_9))) := fun _ => THd_8 hTQ hHe (by omega) hv6 hs6 (by omega) (by omega) (by omega)
                        have : IMP (nvl (ub8 ((w1))) ((a1)) 4 ≠ 407708164) ((z72) = 4 ∧ (y72_0_12) = (a1)) := fun z => absurd hmk z
                        exact w_ireturn rfl (k (z72) _ _ _ H O (cF72) (cA72) ((v12 % 256)) (((((show F72 0 8 = F64 0 8 from (eF72 0 8).trans (hS72 0 8 rfl))).trans ((show F64 0 8 = F14 0 8 from (eF64 0 8)))).trans ((show F14 0 8 = (updF F9 0 8 ((v12 % 256))) 0 8 from (eF14 0 8))))) (u0_9) (((((((show F72 0 9 = F64 0 9 from (eF72 0 9).trans (hS72 0 9 rfl))).trans ((show F64 0 9 = F14 0 9 from (eF64 0 9)))).trans ((show F14 0 9 = (updF F9 0 8 ((v12 % 256))) 0 9 from (eF14 0 9)))).trans ((show F9 0 9 = F 0 9 from (eF9 0 9)))).trans (eu0_9))) (u0_10) (((((((show F72 0 10 = F64 0 10 from (eF72 0 10).trans (hS72 0 10 rfl))).trans ((show F64 0 10 = F14 0 10 from (eF64 0 10)))).trans ((show F14 0 10 = (updF F9 0 8 ((v12 % 256))) 0 10 from (eF14 0 10)))).trans ((show F9 0 10 = F 0 10 from (eF9 0 10)))).trans (eu0_10))) (y72_0_12) (((eF72 0 12).trans ey72_0_12)) (show inr (z72) from pz72_0) (show 0 ≤ (z72) ∧ (z72) ≤ 6 from q_3230 pz72_1) (show (z72) = 0 → a1 + 7 ≤ (y72_0_12) ∧ (y72_0_12) ≤ (u0_5) ∧ (u0_10) = (u2_1) ∧ 65536 ≤ (u0_9) ∧ (u0_9) ≤ 4194304 from q_3294 b62 h3 pz72_1 pz72_2 r3 r4) (show (z72) = 0 → andI (((v12 % 256))) 8 = 0 ∨ a1 + 14 ≤ (u0_5) from q_3276 pz72_1) (show IMP (nvl (ub8 ((w1))) (a1) 4 = 407708164) (THd (ub8 ((w1))) ((u0_5)) (a1) ((z72)) ((y72_0_12)) (((v12 % 256))) ((u0_9))) by assumption) (show IMP (nvl (ub8 ((w1))) (a1) 4 ≠ 407708164) ((z72) = 4 ∧ (y72_0_12) = a1) by assumption))
                    · refine Ew_of (pcₚ := 191) (fun _ => x_aload_n rfl (rk_o (rk_o (rfl) rfl rfl) rfl rfl)) ?_
                      refine Ew_of (pcₚ := 192) (fun _ => x_iconst rfl) ?_
                      refine Ew_of (pcₚ := 193) (fun _ => x_aload_n rfl (rk_o (rk_o (rfl) rfl rfl) rfl rfl)) ?_
                      refine v_g H (o := 0) (v := I (u0_5)) rfl rfl rfl rfl rfl (congrArg (fun z : Int => I z) (((mF14 0 5 rfl).trans (eu0_5)) : F14 0 5 = u0_5)) ?_
                      refine v_inv H (o := 0) rfl rfl rfl rfl rfl rfl (by rfl) (C221 (D := puc 0 D) (N := puc 0 N) (HW_subc H oz_D5cls_4 oz_D5cls_10) (u0_12) (((((show F14 0 12 = (updF F9 0 8 ((v12 % 256))) 0 12 from (eF14 0 12))).trans ((show F9 0 12 = F 0 12 from (eF9 0 12)))).trans (eu0_12))) (show inr (1) from q_135) (show inr (u0_5) from q_38 h1) (fun z74 σ74 F74ₚ A74ₚ Hₚ Oₚ hS74 hA74 y74_0_12 ey74_0_12 pz74_0 pz74_1 pz74_2 => ⟨rfl, ?_⟩))
                      refine v_backc (c := c) (s := s) H oz_D5cls_4 oz_D5cls_10 Hₚ Oₚ (fun F74 A74 H Oₚ eF74 eA74 => ?_)
                      have O := OUT_trans O Oₚ
                      -- Tokens.fail
                      have cF74 : SF oz_D5clsl_0 F F74 := SF_trans (cF14) (SF_gluc (ι := oz_D5clsl_3) oz_D5cls_10 hS74 eF74 (by decide +kernel)) (any_sub (lₚ := [(0, 12)]) (by decide +kernel))
                      have mF74 := SFm_of cF74 oz_D5cls_6
                      have cA74 : SA oz_D5clsl_1 A A74 := SA_trans (cA14) (SA_gluc (ι := oz_D5clsl_3) oz_D5cls_10 hA74 eA74 (by decide +kernel)) (any_subA (lₚ := []) (by decide +kernel))
                      have mA74 := SAm_of cA74 oz_D5cls_7
                      have r75 : (-2147483648 : Int) ≤ y74_0_12 ∧ y74_0_12 ≤ 2147483647 := rngE (show (-2147483648 : Int) ≤ F74 0 12 ∧ F74 0 12 ≤ 2147483647 from H.krg 0 12 (ltn len_V227_oz_D5cls rfl)) (show F74 0 12 = y74_0_12 from ((eF74 0 12).trans ey74_0_12))
                      have : IMP (nvl (ub8 ((w1))) ((a1)) 4 = 407708164) (THd (ub8 ((w1))) ((u0_5)) ((a1)) ((z74)) ((y74_0_12)) (((v12 % 256))) ((u0_9))) := fun _ => THd_7 hTQ hHe (by omega) (by omega) (by omega)
                      have : IMP (nvl (ub8 ((w1))) ((a1)) 4 ≠ 407708164) ((z74) = 4 ∧ (y74_0_12) = (a1)) := fun z => absurd hmk z
                      exact w_ireturn rfl (k (z74) _ _ _ H O (cF74) (cA74) ((v12 % 256)) ((((show F74 0 8 = F14 0 8 from (eF74 0 8).trans (hS74 0 8 rfl))).trans ((show F14 0 8 = (updF F9 0 8 ((v12 % 256))) 0 8 from (eF14 0 8))))) (u0_9) ((((((show F74 0 9 = F14 0 9 from (eF74 0 9).trans (hS74 0 9 rfl))).trans ((show F14 0 9 = (updF F9 0 8 ((v12 % 256))) 0 9 from (eF14 0 9)))).trans ((show F9 0 9 = F 0 9 from (eF9 0 9)))).trans (eu0_9))) (u0_10) ((((((show F74 0 10 = F14 0 10 from (eF74 0 10).trans (hS74 0 10 rfl))).trans ((show F14 0 10 = (updF F9 0 8 ((v12 % 256))) 0 10 from (eF14 0 10)))).trans ((show F9 0 10 = F 0 10 from (eF9 0 10)))).trans (eu0_10))) (y74_0_12) (((eF74 0 12).trans ey74_0_12)) (show inr (z74) from pz74_0) (show 0 ≤ (z74) ∧ (z74) ≤ 6 from q_3240 pz74_1) (show (z74) = 0 → a1 + 7 ≤ (y74_0_12) ∧ (y74_0_12) ≤ (u0_5) ∧ (u0_10) = (u2_1) ∧ 65536 ≤ (u0_9) ∧ (u0_9) ≤ 4194304 from q_3279 b16 h3 pz74_1 pz74_2 r3 r4) (show (z74) = 0 → andI (((v12 % 256))) 8 = 0 ∨ a1 + 14 ≤ (u0_5) from q_3278 pz74_1) (show IMP (nvl (ub8 ((w1))) (a1) 4 = 407708164) (THd (ub8 ((w1))) ((u0_5)) (a1) ((z74)) ((y74_0_12)) (((v12 % 256))) ((u0_9))) by assumption) (show IMP (nvl (ub8 ((w1))) (a1) 4 ≠ 407708164) ((z74) = 4 ∧ (y74_0_12) = a1) by assumption))
                  · refine Ew_of (pcₚ := 176) (fun _ => x_iconst rfl) ?_
                    refine Ew_of (pcₚ := 180) (fun _ => x_goto rfl rfl) ?_
                    refine w_iadd rfl ?_
                    refine Ew_of (pcₚ := 182) (fun _ => x_istore_n rfl) ?_
                    have hHe : ((((a1 + 6) + 8) + 4)) = THe ((a1)) (((v12 % 256))) := by unfold THe; first | (rw [if_pos (by omega), if_pos (by omega)] <;> omega) | (rw [if_pos (by omega), if_neg (by omega)] <;> omega) | (rw [if_neg (by omega), if_pos (by omega)] <;> omega) | (rw [if_neg (by omega), if_neg (by omega)] <;> omega)
                    refine Ew_of (pcₚ := 183) (fun _ => x_iload_n rfl rk_s) ?_
                    refine Ew_of (pcₚ := 184) (fun _ => x_aload_n rfl (rk_o (rk_o (rfl) rfl rfl) rfl rfl)) ?_
                    refine v_g H (o := 0) (v := I (u0_5)) rfl rfl rfl rfl rfl (congrArg (fun z : Int => I z) (((mF14 0 5 rfl).trans (eu0_5)) : F14 0 5 = u0_5)) ?_
                    refine w_icmplt (t := 200) rfl rfl (show inr ((((a1 + 6) + 8) + 4)) from q_3295 b16 h1 h2) (show inr (u0_5) from q_38 h1) (fun b76 => ?_) (fun b76 => ?_)
                    · refine Ew_of (pcₚ := 201) (fun _ => x_aload_n rfl (rk_o (rk_o (rfl) rfl rfl) rfl rfl)) ?_
                      refine v_g H (o := 0) (v := .ref (D 1)) rfl rfl rfl rfl rfl (vrf ((mF14 0 4 rfl).trans (pf1))) ?_
                      refine Ew_of (pcₚ := 205) (fun _ => x_iload_n rfl rk_s) ?_
                      refine v_lB H (o := 1) rfl rfl rfl rfl (n := n1) (en1) (show 0 ≤ (((a1 + 6) + 8) + 4) ∧ (((a1 + 6) + 8) + 4) < n1 from q_3296 b76 h1 h2) (fun v77 ev77 qv77 => ?_)
                      have ev77 : (w1) ((((a1 + 6) + 8) + 4)) = v77 := (congrFun ((funext (mA14 1 rfl)).trans (ew1)) ((((a1 + 6) + 8) + 4))).symm.trans ev77
                      have hve := ev77
                      refine Ew_of (pcₚ := 209) (fun _ => x_sipush (z := 255) rfl (by decide)) ?_
                      refine v_and255 rfl ?_
                      have hv6 : (ub8 ((w1))) (((((a1 + 6) + 8) + 4))) = ((v77 % 256)) := ub_eq hve rfl
                      refine Ew_of (pcₚ := 211) (fun _ => x_aload_n rfl (rk_o (rk_o (rfl) rfl rfl) rfl rfl)) ?_
                      refine v_g H (o := 0) (v := .ref (D 1)) rfl rfl rfl rfl rfl (vrf ((mF14 0 4 rfl).trans (pf1))) ?_
                      refine Ew_of (pcₚ := 215) (fun _ => x_iload_n rfl (rk_o (rk_o (rfl) rfl rfl) rfl rfl)) ?_
                      refine Ew_of (pcₚ := 216) (fun _ => x_iconst rfl) ?_
                      refine w_iadd rfl ?_
                      refine Ew_of (pcₚ := 218) (fun _ => x_iload_n rfl rk_s) ?_
                      refine Ew_of (pcₚ := 219) (fun _ => x_iconst rfl) ?_
                      refine w_stat25 rfl rfl (by rfl) (C49_Br (D := puc 1 D) (N := puc 1 N) (HW_subc H oz_D5cls_5 oz_D5cls_8) (n1) (en1) (w1) ((funext (mA14 1 rfl)).trans (ew1)) (show inr ((a1 + 4)) from q_3299 b76 h1 h2) (show inr ((((a1 + 6) + 8) + 4)) from q_3298 b76 h1 h2) (show inr (0) from q_2) (show 0 ≤ ((a1 + 4)) ∧ ((a1 + 4)) ≤ ((((a1 + 6) + 8) + 4)) ∧ ((((a1 + 6) + 8) + 4)) ≤ (n1) from q_3297 b76 h1 h2) (fun z78 σ78 F78ₚ A78ₚ Hₚ Oₚ hS78 hA78 pz78_0 pz78_1 => ⟨rfl, ?_⟩))
                      refine v_backc (c := c) (s := s) H oz_D5cls_5 oz_D5cls_8 Hₚ Oₚ (fun F78 A78 H Oₚ eF78 eA78 => ?_)
                      have O := OUT_trans O Oₚ
                      -- PackHouse.narrowSum
                      have cF78 : SF oz_D5clsl_0 F F78 := SF_trans (cF14) (SF_gluc (ι := oz_D5clsl_2) oz_D5cls_8 hS78 eF78 (by decide +kernel)) (any_sub (lₚ := []) (by decide +kernel))
                      have mF78 := SFm_of cF78 oz_D5cls_6
                      have cA78 : SA oz_D5clsl_1 A A78 := SA_trans (cA14) (SA_gluc (ι := oz_D5clsl_2) oz_D5cls_8 hA78 eA78 (by decide +kernel)) (any_subA (lₚ := []) (by decide +kernel))
                      have mA78 := SAm_of cA78 oz_D5cls_7
                      have hns := pz78_1
                      refine Ew_of (pcₚ := 224) (fun _ => x_bipush (z := 8) rfl (by decide)) ?_
                      refine w_iushrE rfl ?_
                      have g79 : inr (usI (z78) (8)) := toI_inr _
                      refine Ew_of (pcₚ := 228) (fun _ => x_sipush (z := 255) rfl (by decide)) ?_
                      refine v_and255 rfl ?_
                      have hs6 : (((usI (z78) (8)) % 256)) = THs (ub8 ((w1))) ((a1)) (((((a1 + 6) + 8) + 4))) := by have h := u8_us8 (z78); unfold u8 at h; unfold THs; rw [NSM_ub (by omega), show ((((a1 + 6) + 8) + 4)) - ((a1) + 4) = ((((a1 + 6) + 8) + 4)) - ((a1) + 4) from rfl, ← hns]; omega
                      refine w_icmpeq (t := 240) rfl rfl (show inr ((v77 % 256)) from q_461) (show inr (((usI (z78) (8)) % 256)) from q_461) (fun b80 => ?_) (fun b80 => ?_)
                      · refine Ew_of (pcₚ := 241) (fun _ => x_aload_n rfl (rk_o (rk_o (rfl) rfl rfl) rfl rfl)) ?_
                        refine Ew_of (pcₚ := 242) (fun _ => x_iconst rfl) ?_
                        refine Ew_of (pcₚ := 244) (fun _ => x_bipush (z := 8) rfl (by decide)) ?_
                        refine Ew_of (pcₚ := 245) (fun _ => x_iconst rfl) ?_
                        refine Ew_of (pcₚ := 246) (fun _ => x_iload_n rfl (rk_o (rk_s) rfl rfl)) ?_
                        refine w_imul rfl ?_
                        refine w_iadd rfl ?_
                        have hp16 : p2 (((8 + (2 * z18)))) ≤ p2 22 := p2_mono (by omega)
                        have hp17 : p2 16 ≤ p2 (((8 + (2 * z18)))) := p2_mono (by omega)
                        have : p2 22 = 4194304 := by decide
                        have : p2 16 = 65536 := by decide
                        have := p2_pos (((8 + (2 * z18))))
                        refine w_ishl1 rfl (show 0 ≤ (8 + (2 * z18)) ∧ (8 + (2 * z18)) ≤ 31 from q_3273 b24 b27) ?_
                        refine v_p H (o := 0) (z := p2 ((8 + (2 * z18)))) (v := I (p2 ((8 + (2 * z18))))) rfl rfl rfl rfl rfl rfl rfl rfl (show (-2147483648 : Int) ≤ p2 ((8 + (2 * z18))) ∧ p2 ((8 + (2 * z18))) ≤ 2147483647 by omega) (fun σ H Oₚ => ?_)
                        have O := OUT_trans O Oₚ
                        have cFu82 : SF oz_D5clsl_0 F (updF F78 0 9 (p2 ((8 + (2 * z18))))) := SF_upd (cF78) rfl
                        have mFu82 := SFm_of cFu82 oz_D5cls_6
                        refine Ew_of (pcₚ := 253) (fun _ => x_aload_n rfl (rk_o (rk_o (rfl) rfl rfl) rfl rfl)) ?_
                        refine Ew_of (pcₚ := 254) (fun _ => x_aload_n rfl (rk_o (rk_o (rfl) rfl rfl) rfl rfl)) ?_
                        refine v_g H (o := 0) (v := .ref (D 2)) rfl rfl rfl rfl rfl (vrf ((mFu82 0 6 rfl).trans (pf2))) ?_
                        refine v_g H (o := 2) (v := I (u2_1)) rfl rfl rfl rfl rfl (congrArg (fun z : Int => I z) (((mFu82 2 1 rfl).trans (eu2_1)) : (updF F78 0 9 (p2 ((8 + (2 * z18))))) 2 1 = u2_1)) ?_
                        refine v_p H (o := 0) (z := u2_1) (v := I (u2_1)) rfl rfl rfl rfl rfl rfl rfl rfl (show (-2147483648 : Int) ≤ u2_1 ∧ u2_1 ≤ 2147483647 from r6) (fun σ H Oₚ => ?_)
                        have O := OUT_trans O Oₚ
                        have cFu83 : SF oz_D5clsl_0 F (updF (updF F78 0 9 (p2 ((8 + (2 * z18))))) 0 10 (u2_1)) := SF_upd (cFu82) rfl
                        have mFu83 := SFm_of cFu83 oz_D5cls_6
                        refine Ew_of (pcₚ := 264) (fun _ => x_aload_n rfl (rk_o (rk_o (rfl) rfl rfl) rfl rfl)) ?_
                        refine Ew_of (pcₚ := 265) (fun _ => x_iconst rfl) ?_
                        refine Ew_of (pcₚ := 266) (fun _ => x_iload_n rfl rk_s) ?_
                        refine Ew_of (pcₚ := 267) (fun _ => x_iconst rfl) ?_
                        refine w_iadd rfl ?_
                        refine v_inv H (o := 0) rfl rfl rfl rfl rfl rfl (by rfl) (C221 (D := puc 0 D) (N := puc 0 N) (HW_subc H oz_D5cls_4 oz_D5cls_10) (u0_12) ((((((show F78 0 12 = F14 0 12 from (eF78 0 12))).trans ((show F14 0 12 = (updF F9 0 8 ((v12 % 256))) 0 12 from (eF14 0 12)))).trans ((show F9 0 12 = F 0 12 from (eF9 0 12)))).trans (eu0_12))) (show inr (0) from q_2) (show inr (((((a1 + 6) + 8) + 4) + 1)) from q_3300 b76 h1 h2) (fun z84 σ84 F84ₚ A84ₚ Hₚ Oₚ hS84 hA84 y84_0_12 ey84_0_12 pz84_0 pz84_1 pz84_2 => ⟨rfl, ?_⟩))
                        refine v_backc (c := c) (s := s) H oz_D5cls_4 oz_D5cls_10 Hₚ Oₚ (fun F84 A84 H Oₚ eF84 eA84 => ?_)
                        have O := OUT_trans O Oₚ
                        -- Tokens.fail
                        have cF84 : SF oz_D5clsl_0 F F84 := SF_trans (cFu83) (SF_gluc (ι := oz_D5clsl_3) oz_D5cls_10 hS84 eF84 (by decide +kernel)) (any_sub (lₚ := [(0, 12)]) (by decide +kernel))
                        have mF84 := SFm_of cF84 oz_D5cls_6
                        have cA84 : SA oz_D5clsl_1 A A84 := SA_trans (cA78) (SA_gluc (ι := oz_D5clsl_3) oz_D5cls_10 hA84 eA84 (by decide +kernel)) (any_subA (lₚ := []) (by decide +kernel))
                        have mA84 := SAm_of cA84 oz_D5cls_7
                        have r85 : (-2147483648 : Int) ≤ y84_0_12 ∧ y84_0_12 ≤ 2147483647 := rngE (show (-2147483648 : Int) ≤ F84 0 12 ∧ F84 0 12 ≤ 2147483647 from H.krg 0 12 (ltn len_V227_oz_D5cls rfl)) (show F84 0 12 = y84_0_12 from ((eF84 0 12).trans ey84_0_12))
                        have : IMP (nvl (ub8 ((w1))) ((a1)) 4 = 407708164) (THd (ub8 ((w1))) ((u0_5)) ((a1)) ((z84)) ((y84_0_12)) (((v12 % 256))) ((p2 ((8 + (2 * z18)))))) := fun _ => THd_0 hTQ hHe (by omega) hv6 hs6 (by omega) (by omega) (by omega) rfl (by rw [← hk4])
                        have : IMP (nvl (ub8 ((w1))) ((a1)) 4 ≠ 407708164) ((z84) = 4 ∧ (y84_0_12) = (a1)) := fun z => absurd hmk z
                        exact w_ireturn rfl (k (z84) _ _ _ H O (cF84) (cA84) ((v12 % 256)) (((((show F84 0 8 = (updF (updF F78 0 9 (p2 ((8 + (2 * z18))))) 0 10 (u2_1)) 0 8 from (eF84 0 8).trans (hS84 0 8 rfl))).trans ((show F78 0 8 = F14 0 8 from (eF78 0 8)))).trans ((show F14 0 8 = (updF F9 0 8 ((v12 % 256))) 0 8 from (eF14 0 8))))) (p2 ((8 + (2 * z18)))) (((show F84 0 9 = (updF (updF F78 0 9 (p2 ((8 + (2 * z18))))) 0 10 (u2_1)) 0 9 from (eF84 0 9).trans (hS84 0 9 rfl)))) (u2_1) (((show F84 0 10 = (updF (updF F78 0 9 (p2 ((8 + (2 * z18))))) 0 10 (u2_1)) 0 10 from (eF84 0 10).trans (hS84 0 10 rfl)))) (y84_0_12) (((eF84 0 12).trans ey84_0_12)) (show inr (z84) from pz84_0) (show 0 ≤ (z84) ∧ (z84) ≤ 6 from q_3228 pz84_1) (show (z84) = 0 → a1 + 7 ≤ (y84_0_12) ∧ (y84_0_12) ≤ (u0_5) ∧ (u2_1) = (u2_1) ∧ 65536 ≤ (p2 ((8 + (2 * z18)))) ∧ (p2 ((8 + (2 * z18)))) ≤ 4194304 by omega) (show (z84) = 0 → andI (((v12 % 256))) 8 = 0 ∨ a1 + 14 ≤ (u0_5) from q_3301 b76) (show IMP (nvl (ub8 ((w1))) (a1) 4 = 407708164) (THd (ub8 ((w1))) ((u0_5)) (a1) ((z84)) ((y84_0_12)) (((v12 % 256))) ((p2 ((8 + (2 * z18)))))) by assumption) (show IMP (nvl (ub8 ((w1))) (a1) 4 ≠ 407708164) ((z84) = 4 ∧ (y84_0_12) = a1) by assumption))
                      · refine Ew_of (pcₚ := 233) (fun _ => x_aload_n rfl (rk_o (rk_o (rfl) rfl rfl) rfl rfl)) ?_
                        refine Ew_of (pcₚ := 235) (fun _ => x_bipush (z := 6) rfl (by decide)) ?_
                        refine Ew_of (pcₚ := 236) (fun _ => x_iload_n rfl rk_s) ?_
                        refine v_inv H (o := 0) rfl rfl rfl rfl rfl rfl (by rfl) (C221 (D := puc 0 D) (N := puc 0 N) (HW_subc H oz_D5cls_4 oz_D5cls_10) (u0_12) ((((((show F78 0 12 = F14 0 12 from (eF78 0 12))).trans ((show F14 0 12 = (updF F9 0 8 ((v12 % 256))) 0 12 from (eF14 0 12)))).trans ((show F9 0 12 = F 0 12 from (eF9 0 12)))).trans (eu0_12))) (show inr (6) from q_756) (show inr ((((a1 + 6) + 8) + 4)) from q_3298 b76 h1 h2) (fun z86 σ86 F86ₚ A86ₚ Hₚ Oₚ hS86 hA86 y86_0_12 ey86_0_12 pz86_0 pz86_1 pz86_2 => ⟨rfl, ?_⟩))
                        refine v_backc (c := c) (s := s) H oz_D5cls_4 oz_D5cls_10 Hₚ Oₚ (fun F86 A86 H Oₚ eF86 eA86 => ?_)
                        have O := OUT_trans O Oₚ
                        -- Tokens.fail
                        have cF86 : SF oz_D5clsl_0 F F86 := SF_trans (cF78) (SF_gluc (ι := oz_D5clsl_3) oz_D5cls_10 hS86 eF86 (by decide +kernel)) (any_sub (lₚ := [(0, 12)]) (by decide +kernel))
                        have mF86 := SFm_of cF86 oz_D5cls_6
                        have cA86 : SA oz_D5clsl_1 A A86 := SA_trans (cA78) (SA_gluc (ι := oz_D5clsl_3) oz_D5cls_10 hA86 eA86 (by decide +kernel)) (any_subA (lₚ := []) (by decide +kernel))
                        have mA86 := SAm_of cA86 oz_D5cls_7
                        have r87 : (-2147483648 : Int) ≤ y86_0_12 ∧ y86_0_12 ≤ 2147483647 := rngE (show (-2147483648 : Int) ≤ F86 0 12 ∧ F86 0 12 ≤ 2147483647 from H.krg 0 12 (ltn len_V227_oz_D5cls rfl)) (show F86 0 12 = y86_0_12 from ((eF86 0 12).trans ey86_0_12))
                        have : IMP (nvl (ub8 ((w1))) ((a1)) 4 = 407708164) (THd (ub8 ((w1))) ((u0_5)) ((a1)) ((z86)) ((y86_0_12)) (((v12 % 256))) ((u0_9))) := fun _ => THd_8 hTQ hHe (by omega) hv6 hs6 (by omega) (by omega) (by omega)
                        have : IMP (nvl (ub8 ((w1))) ((a1)) 4 ≠ 407708164) ((z86) = 4 ∧ (y86_0_12) = (a1)) := fun z => absurd hmk z
                        exact w_ireturn rfl (k (z86) _ _ _ H O (cF86) (cA86) ((v12 % 256)) (((((show F86 0 8 = F78 0 8 from (eF86 0 8).trans (hS86 0 8 rfl))).trans ((show F78 0 8 = F14 0 8 from (eF78 0 8)))).trans ((show F14 0 8 = (updF F9 0 8 ((v12 % 256))) 0 8 from (eF14 0 8))))) (u0_9) (((((((show F86 0 9 = F78 0 9 from (eF86 0 9).trans (hS86 0 9 rfl))).trans ((show F78 0 9 = F14 0 9 from (eF78 0 9)))).trans ((show F14 0 9 = (updF F9 0 8 ((v12 % 256))) 0 9 from (eF14 0 9)))).trans ((show F9 0 9 = F 0 9 from (eF9 0 9)))).trans (eu0_9))) (u0_10) (((((((show F86 0 10 = F78 0 10 from (eF86 0 10).trans (hS86 0 10 rfl))).trans ((show F78 0 10 = F14 0 10 from (eF78 0 10)))).trans ((show F14 0 10 = (updF F9 0 8 ((v12 % 256))) 0 10 from (eF14 0 10)))).trans ((show F9 0 10 = F 0 10 from (eF9 0 10)))).trans (eu0_10))) (y86_0_12) (((eF86 0 12).trans ey86_0_12)) (show inr (z86) from pz86_0) (show 0 ≤ (z86) ∧ (z86) ≤ 6 from q_3230 pz86_1) (show (z86) = 0 → a1 + 7 ≤ (y86_0_12) ∧ (y86_0_12) ≤ (u0_5) ∧ (u0_10) = (u2_1) ∧ 65536 ≤ (u0_9) ∧ (u0_9) ≤ 4194304 from q_3302 b76 h3 pz86_1 pz86_2 r3 r4) (show (z86) = 0 → andI (((v12 % 256))) 8 = 0 ∨ a1 + 14 ≤ (u0_5) from q_3276 pz86_1) (show IMP (nvl (ub8 ((w1))) (a1) 4 = 407708164) (THd (ub8 ((w1))) ((u0_5)) (a1) ((z86)) ((y86_0_12)) (((v12 % 256))) ((u0_9))) by assumption) (show IMP (nvl (ub8 ((w1))) (a1) 4 ≠ 407708164) ((z86) = 4 ∧ (y86_0_12) = a1) by assumption))
                    · refine Ew_of (pcₚ := 191) (fun _ => x_aload_n rfl (rk_o (rk_o (rfl) rfl rfl) rfl rfl)) ?_
                      refine Ew_of (pcₚ := 192) (fun _ => x_iconst rfl) ?_
                      refine Ew_of (pcₚ := 193) (fun _ => x_aload_n rfl (rk_o (rk_o (rfl) rfl rfl) rfl rfl)) ?_
                      refine v_g H (o := 0) (v := I (u0_5)) rfl rfl rfl rfl rfl (congrArg (fun z : Int => I z) (((mF14 0 5 rfl).trans (eu0_5)) : F14 0 5 = u0_5)) ?_
                      refine v_inv H (o := 0) rfl rfl rfl rfl rfl rfl (by rfl) (C221 (D := puc 0 D) (N := puc 0 N) (HW_subc H oz_D5cls_4 oz_D5cls_10) (u0_12) (((((show F14 0 12 = (updF F9 0 8 ((v12 % 256))) 0 12 from (eF14 0 12))).trans ((show F9 0 12 = F 0 12 from (eF9 0 12)))).trans (eu0_12))) (show inr (1) from q_135) (show inr (u0_5) from q_38 h1) (fun z88 σ88 F88ₚ A88ₚ Hₚ Oₚ hS88 hA88 y88_0_12 ey88_0_12 pz88_0 pz88_1 pz88_2 => ⟨rfl, ?_⟩))
                      refine v_backc (c := c) (s := s) H oz_D5cls_4 oz_D5cls_10 Hₚ Oₚ (fun F88 A88 H Oₚ eF88 eA88 => ?_)
                      have O := OUT_trans O Oₚ
                      -- Tokens.fail
                      have cF88 : SF oz_D5clsl_0 F F88 := SF_trans (cF14) (SF_gluc (ι := oz_D5clsl_3) oz_D5cls_10 hS88 eF88 (by decide +kernel)) (any_sub (lₚ := [(0, 12)]) (by decide +kernel))
                      have mF88 := SFm_of cF88 oz_D5cls_6
                      have cA88 : SA oz_D5clsl_1 A A88 := SA_trans (cA14) (SA_gluc (ι := oz_D5clsl_3) oz_D5cls_10 hA88 eA88 (by decide +kernel)) (any_subA (lₚ := []) (by decide +kernel))
                      have mA88 := SAm_of cA88 oz_D5cls_7
                      have r89 : (-2147483648 : Int) ≤ y88_0_12 ∧ y88_0_12 ≤ 2147483647 := rngE (show (-2147483648 : Int) ≤ F88 0 12 ∧ F88 0 12 ≤ 2147483647 from H.krg 0 12 (ltn len_V227_oz_D5cls rfl)) (show F88 0 12 = y88_0_12 from ((eF88 0 12).trans ey88_0_12))
                      have : IMP (nvl (ub8 ((w1))) ((a1)) 4 = 407708164) (THd (ub8 ((w1))) ((u0_5)) ((a1)) ((z88)) ((y88_0_12)) (((v12 % 256))) ((u0_9))) := fun _ => THd_7 hTQ hHe (by omega) (by omega) (by omega)
                      have : IMP (nvl (ub8 ((w1))) ((a1)) 4 ≠ 407708164) ((z88) = 4 ∧ (y88_0_12) = (a1)) := fun z => absurd hmk z
                      exact w_ireturn rfl (k (z88) _ _ _ H O (cF88) (cA88) ((v12 % 256)) ((((show F88 0 8 = F14 0 8 from (eF88 0 8).trans (hS88 0 8 rfl))).trans ((show F14 0 8 = (updF F9 0 8 ((v12 % 256))) 0 8 from (eF14 0 8))))) (u0_9) ((((((show F88 0 9 = F14 0 9 from (eF88 0 9).trans (hS88 0 9 rfl))).trans ((show F14 0 9 = (updF F9 0 8 ((v12 % 256))) 0 9 from (eF14 0 9)))).trans ((show F9 0 9 = F 0 9 from (eF9 0 9)))).trans (eu0_9))) (u0_10) ((((((show F88 0 10 = F14 0 10 from (eF88 0 10).trans (hS88 0 10 rfl))).trans ((show F14 0 10 = (updF F9 0 8 ((v12 % 256))) 0 10 from (eF14 0 10)))).trans ((show F9 0 10 = F 0 10 from (eF9 0 10)))).trans (eu0_10))) (y88_0_12) (((eF88 0 12).trans ey88_0_12)) (show inr (z88) from pz88_0) (show 0 ≤ (z88) ∧ (z88) ≤ 6 from q_3240 pz88_1) (show (z88) = 0 → a1 + 7 ≤ (y88_0_12) ∧ (y88_0_12) ≤ (u0_5) ∧ (u0_10) = (u2_1) ∧ 65536 ≤ (u0_9) ∧ (u0_9) ≤ 4194304 from q_3279 b16 h3 pz88_1 pz88_2 r3 r4) (show (z88) = 0 → andI (((v12 % 256))) 8 = 0 ∨ a1 + 14 ≤ (u0_5) from q_3278 pz88_1) (show IMP (nvl (ub8 ((w1))) (a1) 4 = 407708164) (THd (ub8 ((w1))) ((u0_5)) (a1) ((z88)) ((y88_0_12)) (((v12 % 256))) ((u0_9))) by assumption) (show IMP (nvl (ub8 ((w1))) (a1) 4 ≠ 407708164) ((z88) = 4 ∧ (y88_0_12) = a1) by assumption))
              · refine Ew_of (pcₚ := 137) (fun _ => x_aload_n rfl (rk_o (rfl) rfl rfl)) ?_
                refine Ew_of (pcₚ := 138) (fun _ => x_iconst rfl) ?_
                refine Ew_of (pcₚ := 139) (fun _ => x_iload_n rfl (rk_o (rfl) rfl rfl)) ?_
                refine Ew_of (pcₚ := 140) (fun _ => x_iconst rfl) ?_
                refine w_iadd rfl ?_
                refine v_inv H (o := 0) rfl rfl rfl rfl rfl rfl (by rfl) (C221 (D := puc 0 D) (N := puc 0 N) (HW_subc H oz_D5cls_4 oz_D5cls_10) (u0_12) (((((show F14 0 12 = (updF F9 0 8 ((v12 % 256))) 0 12 from (eF14 0 12))).trans ((show F9 0 12 = F 0 12 from (eF9 0 12)))).trans (eu0_12))) (show inr (5) from q_727) (show inr ((a1 + 5)) from q_3265 b16 h1 h2) (fun z90 σ90 F90ₚ A90ₚ Hₚ Oₚ hS90 hA90 y90_0_12 ey90_0_12 pz90_0 pz90_1 pz90_2 => ⟨rfl, ?_⟩))
                refine v_backc (c := c) (s := s) H oz_D5cls_4 oz_D5cls_10 Hₚ Oₚ (fun F90 A90 H Oₚ eF90 eA90 => ?_)
                have O := OUT_trans O Oₚ
                -- Tokens.fail
                have cF90 : SF oz_D5clsl_0 F F90 := SF_trans (cF14) (SF_gluc (ι := oz_D5clsl_3) oz_D5cls_10 hS90 eF90 (by decide +kernel)) (any_sub (lₚ := [(0, 12)]) (by decide +kernel))
                have mF90 := SFm_of cF90 oz_D5cls_6
                have cA90 : SA oz_D5clsl_1 A A90 := SA_trans (cA14) (SA_gluc (ι := oz_D5clsl_3) oz_D5cls_10 hA90 eA90 (by decide +kernel)) (any_subA (lₚ := []) (by decide +kernel))
                have mA90 := SAm_of cA90 oz_D5cls_7
                have r91 : (-2147483648 : Int) ≤ y90_0_12 ∧ y90_0_12 ≤ 2147483647 := rngE (show (-2147483648 : Int) ≤ F90 0 12 ∧ F90 0 12 ≤ 2147483647 from H.krg 0 12 (ltn len_V227_oz_D5cls rfl)) (show F90 0 12 = y90_0_12 from ((eF90 0 12).trans ey90_0_12))
                have : IMP (nvl (ub8 ((w1))) ((a1)) 4 = 407708164) (THd (ub8 ((w1))) ((u0_5)) ((a1)) ((z90)) ((y90_0_12)) (((v12 % 256))) ((u0_9))) := fun _ => THd_6 rfl hv3 hTF (by omega) rfl rfl (by omega) (by omega) (by omega)
                have : IMP (nvl (ub8 ((w1))) ((a1)) 4 ≠ 407708164) ((z90) = 4 ∧ (y90_0_12) = (a1)) := fun z => absurd hmk z
                exact w_ireturn rfl (k (z90) _ _ _ H O (cF90) (cA90) ((v12 % 256)) ((((show F90 0 8 = F14 0 8 from (eF90 0 8).trans (hS90 0 8 rfl))).trans ((show F14 0 8 = (updF F9 0 8 ((v12 % 256))) 0 8 from (eF14 0 8))))) (u0_9) ((((((show F90 0 9 = F14 0 9 from (eF90 0 9).trans (hS90 0 9 rfl))).trans ((show F14 0 9 = (updF F9 0 8 ((v12 % 256))) 0 9 from (eF14 0 9)))).trans ((show F9 0 9 = F 0 9 from (eF9 0 9)))).trans (eu0_9))) (u0_10) ((((((show F90 0 10 = F14 0 10 from (eF90 0 10).trans (hS90 0 10 rfl))).trans ((show F14 0 10 = (updF F9 0 8 ((v12 % 256))) 0 10 from (eF14 0 10)))).trans ((show F9 0 10 = F 0 10 from (eF9 0 10)))).trans (eu0_10))) (y90_0_12) (((eF90 0 12).trans ey90_0_12)) (show inr (z90) from pz90_0) (show 0 ≤ (z90) ∧ (z90) ≤ 6 from q_3245 pz90_1) (show (z90) = 0 → a1 + 7 ≤ (y90_0_12) ∧ (y90_0_12) ≤ (u0_5) ∧ (u0_10) = (u2_1) ∧ 65536 ≤ (u0_9) ∧ (u0_9) ≤ 4194304 from q_3267 b16 h3 pz90_1 pz90_2 r3 r4) (show (z90) = 0 → andI (((v12 % 256))) 8 = 0 ∨ a1 + 14 ≤ (u0_5) from q_3266 pz90_1) (show IMP (nvl (ub8 ((w1))) (a1) 4 = 407708164) (THd (ub8 ((w1))) ((u0_5)) (a1) ((z90)) ((y90_0_12)) (((v12 % 256))) ((u0_9))) by assumption) (show IMP (nvl (ub8 ((w1))) (a1) 4 ≠ 407708164) ((z90) = 4 ∧ (y90_0_12) = a1) by assumption))
        · refine Ew_of (pcₚ := 87) (fun _ => x_aload_n rfl rfl) ?_
          refine Ew_of (pcₚ := 88) (fun _ => x_iconst rfl) ?_
          refine Ew_of (pcₚ := 89) (fun _ => x_aload_n rfl rfl) ?_
          refine v_g H (o := 0) (v := I (u0_5)) rfl rfl rfl rfl rfl (congrArg (fun z : Int => I z) (((mF14 0 5 rfl).trans (eu0_5)) : F14 0 5 = u0_5)) ?_
          refine v_inv H (o := 0) rfl rfl rfl rfl rfl rfl (by rfl) (C221 (D := puc 0 D) (N := puc 0 N) (HW_subc H oz_D5cls_4 oz_D5cls_10) (u0_12) (((((show F14 0 12 = (updF F9 0 8 ((v12 % 256))) 0 12 from (eF14 0 12))).trans ((show F9 0 12 = F 0 12 from (eF9 0 12)))).trans (eu0_12))) (show inr (1) from q_135) (show inr (u0_5) from q_38 h1) (fun z92 σ92 F92ₚ A92ₚ Hₚ Oₚ hS92 hA92 y92_0_12 ey92_0_12 pz92_0 pz92_1 pz92_2 => ⟨rfl, ?_⟩))
          refine v_backc (c := c) (s := s) H oz_D5cls_4 oz_D5cls_10 Hₚ Oₚ (fun F92 A92 H Oₚ eF92 eA92 => ?_)
          have O := OUT_trans O Oₚ
          -- Tokens.fail
          have cF92 : SF oz_D5clsl_0 F F92 := SF_trans (cF14) (SF_gluc (ι := oz_D5clsl_3) oz_D5cls_10 hS92 eF92 (by decide +kernel)) (any_sub (lₚ := [(0, 12)]) (by decide +kernel))
          have mF92 := SFm_of cF92 oz_D5cls_6
          have cA92 : SA oz_D5clsl_1 A A92 := SA_trans (cA14) (SA_gluc (ι := oz_D5clsl_3) oz_D5cls_10 hA92 eA92 (by decide +kernel)) (any_subA (lₚ := []) (by decide +kernel))
          have mA92 := SAm_of cA92 oz_D5cls_7
          have r93 : (-2147483648 : Int) ≤ y92_0_12 ∧ y92_0_12 ≤ 2147483647 := rngE (show (-2147483648 : Int) ≤ F92 0 12 ∧ F92 0 12 ≤ 2147483647 from H.krg 0 12 (ltn len_V227_oz_D5cls rfl)) (show F92 0 12 = y92_0_12 from ((eF92 0 12).trans ey92_0_12))
          have : IMP (nvl (ub8 ((w1))) ((a1)) 4 = 407708164) (THd (ub8 ((w1))) ((u0_5)) ((a1)) ((z92)) ((y92_0_12)) (((v12 % 256))) ((u0_9))) := fun _ => THd_2 (by omega) rfl hv3 hTF (by omega) (by omega) (by omega)
          have : IMP (nvl (ub8 ((w1))) ((a1)) 4 ≠ 407708164) ((z92) = 4 ∧ (y92_0_12) = (a1)) := fun z => absurd hmk z
          exact w_ireturn rfl (k (z92) _ _ _ H O (cF92) (cA92) ((v12 % 256)) ((((show F92 0 8 = F14 0 8 from (eF92 0 8).trans (hS92 0 8 rfl))).trans ((show F14 0 8 = (updF F9 0 8 ((v12 % 256))) 0 8 from (eF14 0 8))))) (u0_9) ((((((show F92 0 9 = F14 0 9 from (eF92 0 9).trans (hS92 0 9 rfl))).trans ((show F14 0 9 = (updF F9 0 8 ((v12 % 256))) 0 9 from (eF14 0 9)))).trans ((show F9 0 9 = F 0 9 from (eF9 0 9)))).trans (eu0_9))) (u0_10) ((((((show F92 0 10 = F14 0 10 from (eF92 0 10).trans (hS92 0 10 rfl))).trans ((show F14 0 10 = (updF F9 0 8 ((v12 % 256))) 0 10 from (eF14 0 10)))).trans ((show F9 0 10 = F 0 10 from (eF9 0 10)))).trans (eu0_10))) (y92_0_12) (((eF92 0 12).trans ey92_0_12)) (show inr (z92) from pz92_0) (show 0 ≤ (z92) ∧ (z92) ≤ 6 from q_3240 pz92_1) (show (z92) = 0 → a1 + 7 ≤ (y92_0_12) ∧ (y92_0_12) ≤ (u0_5) ∧ (u0_10) = (u2_1) ∧ 65536 ≤ (u0_9) ∧ (u0_9) ≤ 4194304 from q_3303 b11 h3 pz92_1 pz92_2 r3 r4) (show (z92) = 0 → andI (((v12 % 256))) 8 = 0 ∨ a1 + 14 ≤ (u0_5) from q_3278 pz92_1) (show IMP (nvl (ub8 ((w1))) (a1) 4 = 407708164) (THd (ub8 ((w1))) ((u0_5)) (a1) ((z92)) ((y92_0_12)) (((v12 % 256))) ((u0_9))) by assumption) (show IMP (nvl (ub8 ((w1))) (a1) 4 ≠ 407708164) ((z92) = 4 ∧ (y92_0_12) = a1) by assumption))
      · refine Ew_of (pcₚ := 67) (fun _ => x_aload_n rfl rfl) ?_
        refine Ew_of (pcₚ := 68) (fun _ => x_iconst rfl) ?_
        refine Ew_of (pcₚ := 69) (fun _ => x_iload_n rfl rfl) ?_
        refine Ew_of (pcₚ := 70) (fun _ => x_iconst rfl) ?_
        refine w_iadd rfl ?_
        refine v_inv H (o := 0) rfl rfl rfl rfl rfl rfl (by rfl) (C221 (D := puc 0 D) (N := puc 0 N) (HW_subc H oz_D5cls_4 oz_D5cls_10) (u0_12) (((((show F14 0 12 = (updF F9 0 8 ((v12 % 256))) 0 12 from (eF14 0 12))).trans ((show F9 0 12 = F 0 12 from (eF9 0 12)))).trans (eu0_12))) (show inr (5) from q_727) (show inr ((a1 + 4)) from q_3304 b11 h1 h2) (fun z94 σ94 F94ₚ A94ₚ Hₚ Oₚ hS94 hA94 y94_0_12 ey94_0_12 pz94_0 pz94_1 pz94_2 => ⟨rfl, ?_⟩))
        refine v_backc (c := c) (s := s) H oz_D5cls_4 oz_D5cls_10 Hₚ Oₚ (fun F94 A94 H Oₚ eF94 eA94 => ?_)
        have O := OUT_trans O Oₚ
        -- Tokens.fail
        have cF94 : SF oz_D5clsl_0 F F94 := SF_trans (cF14) (SF_gluc (ι := oz_D5clsl_3) oz_D5cls_10 hS94 eF94 (by decide +kernel)) (any_sub (lₚ := [(0, 12)]) (by decide +kernel))
        have mF94 := SFm_of cF94 oz_D5cls_6
        have cA94 : SA oz_D5clsl_1 A A94 := SA_trans (cA14) (SA_gluc (ι := oz_D5clsl_3) oz_D5cls_10 hA94 eA94 (by decide +kernel)) (any_subA (lₚ := []) (by decide +kernel))
        have mA94 := SAm_of cA94 oz_D5cls_7
        have r95 : (-2147483648 : Int) ≤ y94_0_12 ∧ y94_0_12 ≤ 2147483647 := rngE (show (-2147483648 : Int) ≤ F94 0 12 ∧ F94 0 12 ≤ 2147483647 from H.krg 0 12 (ltn len_V227_oz_D5cls rfl)) (show F94 0 12 = y94_0_12 from ((eF94 0 12).trans ey94_0_12))
        have : IMP (nvl (ub8 ((w1))) ((a1)) 4 = 407708164) (THd (ub8 ((w1))) ((u0_5)) ((a1)) ((z94)) ((y94_0_12)) (((v12 % 256))) ((u0_9))) := fun _ => THd_5 (by omega) rfl hv3 (fun q => by have := haf.mpr q; omega) (by omega) (by omega)
        have : IMP (nvl (ub8 ((w1))) ((a1)) 4 ≠ 407708164) ((z94) = 4 ∧ (y94_0_12) = (a1)) := fun z => absurd hmk z
        exact w_ireturn rfl (k (z94) _ _ _ H O (cF94) (cA94) ((v12 % 256)) ((((show F94 0 8 = F14 0 8 from (eF94 0 8).trans (hS94 0 8 rfl))).trans ((show F14 0 8 = (updF F9 0 8 ((v12 % 256))) 0 8 from (eF14 0 8))))) (u0_9) ((((((show F94 0 9 = F14 0 9 from (eF94 0 9).trans (hS94 0 9 rfl))).trans ((show F14 0 9 = (updF F9 0 8 ((v12 % 256))) 0 9 from (eF14 0 9)))).trans ((show F9 0 9 = F 0 9 from (eF9 0 9)))).trans (eu0_9))) (u0_10) ((((((show F94 0 10 = F14 0 10 from (eF94 0 10).trans (hS94 0 10 rfl))).trans ((show F14 0 10 = (updF F9 0 8 ((v12 % 256))) 0 10 from (eF14 0 10)))).trans ((show F9 0 10 = F 0 10 from (eF9 0 10)))).trans (eu0_10))) (y94_0_12) (((eF94 0 12).trans ey94_0_12)) (show inr (z94) from pz94_0) (show 0 ≤ (z94) ∧ (z94) ≤ 6 from q_3245 pz94_1) (show (z94) = 0 → a1 + 7 ≤ (y94_0_12) ∧ (y94_0_12) ≤ (u0_5) ∧ (u0_10) = (u2_1) ∧ 65536 ≤ (u0_9) ∧ (u0_9) ≤ 4194304 from q_3305 b11 h3 pz94_1 pz94_2 r3 r4) (show (z94) = 0 → andI (((v12 % 256))) 8 = 0 ∨ a1 + 14 ≤ (u0_5) from q_3266 pz94_1) (show IMP (nvl (ub8 ((w1))) (a1) 4 = 407708164) (THd (ub8 ((w1))) ((u0_5)) (a1) ((z94)) ((y94_0_12)) (((v12 % 256))) ((u0_9))) by assumption) (show IMP (nvl (ub8 ((w1))) (a1) 4 ≠ 407708164) ((z94) = 4 ∧ (y94_0_12) = a1) by assumption))
    · refine Ew_of (pcₚ := 31) (fun _ => x_aload_n rfl rfl) ?_
      refine Ew_of (pcₚ := 32) (fun _ => x_iconst rfl) ?_
      refine Ew_of (pcₚ := 33) (fun _ => x_aload_n rfl rfl) ?_
      refine v_g H (o := 0) (v := I (u0_5)) rfl rfl rfl rfl rfl (congrArg (fun z : Int => I z) (((mF9 0 5 rfl).trans (eu0_5)) : F9 0 5 = u0_5)) ?_
      refine v_inv H (o := 0) rfl rfl rfl rfl rfl rfl (by rfl) (C221 (D := puc 0 D) (N := puc 0 N) (HW_subc H oz_D5cls_4 oz_D5cls_10) (u0_12) ((((show F9 0 12 = F 0 12 from (eF9 0 12))).trans (eu0_12))) (show inr (1) from q_135) (show inr (u0_5) from q_38 h1) (fun z96 σ96 F96ₚ A96ₚ Hₚ Oₚ hS96 hA96 y96_0_12 ey96_0_12 pz96_0 pz96_1 pz96_2 => ⟨rfl, ?_⟩))
      refine v_backc (c := c) (s := s) H oz_D5cls_4 oz_D5cls_10 Hₚ Oₚ (fun F96 A96 H Oₚ eF96 eA96 => ?_)
      have O := OUT_trans O Oₚ
      -- Tokens.fail
      have cF96 : SF oz_D5clsl_0 F F96 := SF_trans (cF9) (SF_gluc (ι := oz_D5clsl_3) oz_D5cls_10 hS96 eF96 (by decide +kernel)) (any_sub (lₚ := [(0, 12)]) (by decide +kernel))
      have mF96 := SFm_of cF96 oz_D5cls_6
      have cA96 : SA oz_D5clsl_1 A A96 := SA_trans (cA9) (SA_gluc (ι := oz_D5clsl_3) oz_D5cls_10 hA96 eA96 (by decide +kernel)) (any_subA (lₚ := []) (by decide +kernel))
      have mA96 := SAm_of cA96 oz_D5cls_7
      have r97 : (-2147483648 : Int) ≤ y96_0_12 ∧ y96_0_12 ≤ 2147483647 := rngE (show (-2147483648 : Int) ≤ F96 0 12 ∧ F96 0 12 ≤ 2147483647 from H.krg 0 12 (ltn len_V227_oz_D5cls rfl)) (show F96 0 12 = y96_0_12 from ((eF96 0 12).trans ey96_0_12))
      have : IMP (nvl (ub8 ((w1))) ((a1)) 4 = 407708164) (THd (ub8 ((w1))) ((u0_5)) ((a1)) ((z96)) ((y96_0_12)) ((u0_8)) ((u0_9))) := fun _ => THd_1 (by omega) (by omega) (by omega)
      have : IMP (nvl (ub8 ((w1))) ((a1)) 4 ≠ 407708164) ((z96) = 4 ∧ (y96_0_12) = (a1)) := fun z => absurd hmk z
      exact w_ireturn rfl (k (z96) _ _ _ H O (cF96) (cA96) (u0_8) (((((show F96 0 8 = F9 0 8 from (eF96 0 8).trans (hS96 0 8 rfl))).trans ((show F9 0 8 = F 0 8 from (eF9 0 8)))).trans (eu0_8))) (u0_9) (((((show F96 0 9 = F9 0 9 from (eF96 0 9).trans (hS96 0 9 rfl))).trans ((show F9 0 9 = F 0 9 from (eF9 0 9)))).trans (eu0_9))) (u0_10) (((((show F96 0 10 = F9 0 10 from (eF96 0 10).trans (hS96 0 10 rfl))).trans ((show F9 0 10 = F 0 10 from (eF9 0 10)))).trans (eu0_10))) (y96_0_12) (((eF96 0 12).trans ey96_0_12)) (show inr (z96) from pz96_0) (show 0 ≤ (z96) ∧ (z96) ≤ 6 from q_3240 pz96_1) (show (z96) = 0 → a1 + 7 ≤ (y96_0_12) ∧ (y96_0_12) ≤ (u0_5) ∧ (u0_10) = (u2_1) ∧ 65536 ≤ (u0_9) ∧ (u0_9) ≤ 4194304 from q_3306 h2 h3 pz96_1 pz96_2 r3 r4) (show (z96) = 0 → andI ((u0_8)) 8 = 0 ∨ a1 + 14 ≤ (u0_5) from q_3278 pz96_1) (show IMP (nvl (ub8 ((w1))) (a1) 4 = 407708164) (THd (ub8 ((w1))) ((u0_5)) (a1) ((z96)) ((y96_0_12)) ((u0_8)) ((u0_9))) by assumption) (show IMP (nvl (ub8 ((w1))) (a1) 4 ≠ 407708164) ((z96) = 4 ∧ (y96_0_12) = a1) by assumption))
  · refine Ew_of (pcₚ := 14) (fun _ => x_aload_n rfl rfl) ?_
    refine Ew_of (pcₚ := 15) (fun _ => x_iconst rfl) ?_
    refine Ew_of (pcₚ := 16) (fun _ => x_iload_n rfl rfl) ?_
    refine v_inv H (o := 0) rfl rfl rfl rfl rfl rfl (by rfl) (C221 (D := puc 0 D) (N := puc 0 N) (HW_subc H oz_D5cls_4 oz_D5cls_10) (u0_12) ((((show F9 0 12 = F 0 12 from (eF9 0 12))).trans (eu0_12))) (show inr (4) from q_216) (show inr (a1) from h0) (fun z98 σ98 F98ₚ A98ₚ Hₚ Oₚ hS98 hA98 y98_0_12 ey98_0_12 pz98_0 pz98_1 pz98_2 => ⟨rfl, ?_⟩))
    refine v_backc (c := c) (s := s) H oz_D5cls_4 oz_D5cls_10 Hₚ Oₚ (fun F98 A98 H Oₚ eF98 eA98 => ?_)
    have O := OUT_trans O Oₚ
    -- Tokens.fail
    have cF98 : SF oz_D5clsl_0 F F98 := SF_trans (cF9) (SF_gluc (ι := oz_D5clsl_3) oz_D5cls_10 hS98 eF98 (by decide +kernel)) (any_sub (lₚ := [(0, 12)]) (by decide +kernel))
    have mF98 := SFm_of cF98 oz_D5cls_6
    have cA98 : SA oz_D5clsl_1 A A98 := SA_trans (cA9) (SA_gluc (ι := oz_D5clsl_3) oz_D5cls_10 hA98 eA98 (by decide +kernel)) (any_subA (lₚ := []) (by decide +kernel))
    have mA98 := SAm_of cA98 oz_D5cls_7
    have r99 : (-2147483648 : Int) ≤ y98_0_12 ∧ y98_0_12 ≤ 2147483647 := rngE (show (-2147483648 : Int) ≤ F98 0 12 ∧ F98 0 12 ≤ 2147483647 from H.krg 0 12 (ltn len_V227_oz_D5cls rfl)) (show F98 0 12 = y98_0_12 from ((eF98 0 12).trans ey98_0_12))
    have : IMP (nvl (ub8 ((w1))) ((a1)) 4 = 407708164) (THd (ub8 ((w1))) ((u0_5)) ((a1)) ((z98)) ((y98_0_12)) ((u0_8)) ((u0_9))) := fun z => absurd z (by omega)
    have : IMP (nvl (ub8 ((w1))) ((a1)) 4 ≠ 407708164) ((z98) = 4 ∧ (y98_0_12) = (a1)) := fun _ => ⟨by omega, by omega⟩
    exact w_ireturn rfl (k (z98) _ _ _ H O (cF98) (cA98) (u0_8) (((((show F98 0 8 = F9 0 8 from (eF98 0 8).trans (hS98 0 8 rfl))).trans ((show F9 0 8 = F 0 8 from (eF9 0 8)))).trans (eu0_8))) (u0_9) (((((show F98 0 9 = F9 0 9 from (eF98 0 9).trans (hS98 0 9 rfl))).trans ((show F9 0 9 = F 0 9 from (eF9 0 9)))).trans (eu0_9))) (u0_10) (((((show F98 0 10 = F9 0 10 from (eF98 0 10).trans (hS98 0 10 rfl))).trans ((show F9 0 10 = F 0 10 from (eF9 0 10)))).trans (eu0_10))) (y98_0_12) (((eF98 0 12).trans ey98_0_12)) (show inr (z98) from pz98_0) (show 0 ≤ (z98) ∧ (z98) ≤ 6 from q_3247 pz98_1) (show (z98) = 0 → a1 + 7 ≤ (y98_0_12) ∧ (y98_0_12) ≤ (u0_5) ∧ (u0_10) = (u2_1) ∧ 65536 ≤ (u0_9) ∧ (u0_9) ≤ 4194304 from q_3308 h2 h3 pz98_1 pz98_2 r3 r4) (show (z98) = 0 → andI ((u0_8)) 8 = 0 ∨ a1 + 14 ≤ (u0_5) from q_3307 pz98_1) (show IMP (nvl (ub8 ((w1))) (a1) 4 = 407708164) (THd (ub8 ((w1))) ((u0_5)) (a1) ((z98)) ((y98_0_12)) ((u0_8)) ((u0_9))) by assumption) (show IMP (nvl (ub8 ((w1))) (a1) 4 ≠ 407708164) ((z98) = 4 ∧ (y98_0_12) = a1) by assumption))
abbrev V229 : vV := [(0, 11, [(4, 0), (4, 0), (4, 0), (4, 0), (4, 0), (0, 0), (4, 0), (0, 0), (0, 0), (0, 0), (0, 0), (0, 0), (0, 0)]), (1, 0, []), (0, 7, [(4, 0), (0, 0), (1, 0), (0, 0), (0, 0)]), (1, 0, [])]
theorem len_V229_oz_D5cls : (V229).length = 4 := by decide +kernel
theorem oz_D5cls_12 : vsub V229 V161_Br [2, 1, 3] = true := by decide +kernel
theorem oz_D5cls_13 : vmov V229 [2, 1, 3] [2] = true := by decide +kernel
theorem oz_D5cls_14 : vsub V229 V221 [0] = true := by decide +kernel
def oz_D5clsl_4 : List (Nat × Nat) := [(0, 12), (2, 0), (2, 1), (2, 2)]
theorem oz_D5cls_15 : (oz_D5clsl_4).all (fun p => !tbz 129127208515966865408 (Nat.add (Nat.mul 32 p.1) p.2)) = true := by decide +kernel
def oz_D5clsl_5 : List Nat := [3]
theorem oz_D5cls_16 : (oz_D5clsl_5).all (fun p => !tbz 8 p) = true := by decide +kernel
def oz_D5clsl_6 : List Nat := [2, 1, 3]
theorem oz_D5cls_17 : okc oz_D5clsl_6 786946 = true := by decide +kernel

theorem C229 {σE : rS} {D N : Nat → Nat} {F : hF} {A : hA} {d c s : Nat} {Q : wQ} (H : HW V229 σE D N F A) {a1 a2 a3 : Int} (pf1 : F 0 4 = (D 1 : Int)) (pf2 : F 0 6 = (D 2 : Int)) (pf3 : F 2 0 = (D 3 : Int)) (n1 : Int) (en1 : (N 1 : Int) = n1) (n3 : Int) (en3 : (N 3 : Int) = n3) (u0_12 : Int) (eu0_12 : F 0 12 = u0_12) (u2_1 : Int) (eu2_1 : F 2 1 = u2_1) (u2_2 : Int) (eu2_2 : F 2 2 = u2_2) (w1 : Int → Int) (ew1 : A 1 = w1) (w3 : Int → Int) (ew3 : A 3 = w3) (h0 : inr (a1)) (h1 : inr (a2)) (h2 : inr (a3)) (h3 : 0 ≤ (a1) ∧ 0 ≤ (a2) ∧ (a1) + (a2) ≤ (n1) ∧ (n1) ≤ 65536) (h4 : 0 ≤ (u2_1) ∧ (u2_1) ≤ (n3) ∧ (n3) ≤ 65536) (h5 : (u2_1) ≤ (a3) ∧ (a3) ≤ 65536) (h6 : (u2_2) = 0) (k : ∀ (z : Int) (σ : rS) (Dₚ Nₚ : Nat → Nat) (Fₚ : hF) (Aₚ : hA) (cₚ sₚ : Nat), HW V229 σ Dₚ Nₚ Fₚ Aₚ → OUT (V229).length D N σE c s Dₚ Nₚ σ cₚ sₚ → SD [3] D Dₚ → SD [3] N Nₚ → SF [(0, 12), (2, 0), (2, 1), (2, 2)] F Fₚ → SA [3] A Aₚ → Fₚ 2 0 = (Dₚ 3 : Int) → ∀ m3 : Int, (Nₚ 3 : Int) = m3 → ∀ y0_12 : Int, Fₚ 0 12 = y0_12 → ∀ y2_1 : Int, Fₚ 2 1 = y2_1 → ∀ y2_2 : Int, Fₚ 2 2 = y2_2 → ∀ v3 : Int → Int, Aₚ 3 = v3 → (inr (z)) → (0 ≤ (z) ∧ (z) ≤ 3) → (0 ≤ (y2_1) ∧ (y2_1) ≤ (m3) ∧ (m3) ≤ 65536) → ((u2_1) ≤ (y2_1) ∧ (y2_1) ≤ (a3)) → ((y2_2) = 0) → ((z) = 3 ∧ (a3) - (u2_1) < (a2) ∧ (y0_12) = (a1) + ((a3) - (u2_1)) ∨ (z) = 0 ∧ (a2) ≤ (a3) - (u2_1) ∧ (y0_12) = (u0_12)) → (IMP ((z) = 0) (sc ((v3)) 0 ((y2_1)) = sc ((w3)) 0 ((u2_1)) ++ sc (ub8 ((w1))) ((a1)) ((a1) + (a2)))) → Q (some (I z)) σ cₚ sₚ) : Ew 229 (d + 3) 0 (rargs 0 [.ref (D 0), I a1, I a2, I a3]) [] σE c s Q := by
  have O := OUT_refl (n := (V229).length) (D := D) (N := N) (σ := σE) (c := c) (s := s)
  have HE := H
  have r1 : (-2147483648 : Int) ≤ u0_12 ∧ u0_12 ≤ 2147483647 := rngE (show (-2147483648 : Int) ≤ F 0 12 ∧ F 0 12 ≤ 2147483647 from H.krg 0 12 (ltn len_V229_oz_D5cls rfl)) (show F 0 12 = u0_12 from (eu0_12))
  have r2 : (-2147483648 : Int) ≤ u2_1 ∧ u2_1 ≤ 2147483647 := rngE (show (-2147483648 : Int) ≤ F 2 1 ∧ F 2 1 ≤ 2147483647 from H.krg 2 1 (ltn len_V229_oz_D5cls rfl)) (show F 2 1 = u2_1 from (eu2_1))
  have r3 : (0 : Int) ≤ u2_2 ∧ u2_2 ≤ 1 := rngE (show (0 : Int) ≤ F 2 2 ∧ F 2 2 ≤ 1 from H.krg 2 2 (ltn len_V229_oz_D5cls rfl)) (show F 2 2 = u2_2 from (eu2_2))
  have r4 : (0 : Int) ≤ n1 ∧ n1 ≤ 1000000 := nleE (H.nle 1 (ltn len_V229_oz_D5cls rfl)) (show (N 1 : Int) = n1 from en1)
  have r5 : (0 : Int) ≤ n3 ∧ n3 ≤ 1000000 := nleE (H.nle 3 (ltn len_V229_oz_D5cls rfl)) (show (N 3 : Int) = n3 from en3)
  refine Ew_of (pcₚ := 1) (fun _ => x_iload_n rfl rfl) ?_
  refine Ew_of (pcₚ := 2) (fun _ => x_aload_n rfl rfl) ?_
  refine v_g H (o := 0) (v := .ref (D 2)) rfl rfl rfl rfl rfl (vrf (pf2)) ?_
  refine v_g H (o := 2) (v := I (u2_1)) rfl rfl rfl rfl rfl (congrArg (fun z : Int => I z) ((eu2_1) : F 2 1 = u2_1)) ?_
  refine w_isub rfl ?_
  refine Ew_of (pcₚ := 11) (fun _ => x_istore rfl) ?_
  refine Ew_of (pcₚ := 12) (fun _ => x_iload_n rfl (rk_o (rfl) rfl rfl)) ?_
  refine Ew_of (pcₚ := 14) (fun _ => x_iload rfl rk_s) ?_
  refine w_icmple (t := 27) rfl rfl (show inr (a2) from h1) (show inr ((a3 - u2_1)) from q_3309 h4 h5) (fun b6 => ?_) (fun b6 => ?_)
  · refine Ew_of (pcₚ := 28) (fun _ => x_aload_n rfl (rk_o (rfl) rfl rfl)) ?_
    refine v_g H (o := 0) (v := .ref (D 2)) rfl rfl rfl rfl rfl (vrf (pf2)) ?_
    refine Ew_of (pcₚ := 32) (fun _ => x_aload_n rfl (rk_o (rfl) rfl rfl)) ?_
    refine v_g H (o := 0) (v := .ref (D 1)) rfl rfl rfl rfl rfl (vrf (pf1)) ?_
    refine Ew_of (pcₚ := 36) (fun _ => x_iload_n rfl (rk_o (rfl) rfl rfl)) ?_
    refine Ew_of (pcₚ := 37) (fun _ => x_iload_n rfl (rk_o (rfl) rfl rfl)) ?_
    refine v_inv H (o := 2) rfl rfl rfl rfl rfl rfl (by rfl) (C161_Br (D := puc 786946 D) (N := puc 786946 N) (HW_subc H oz_D5cls_12 oz_D5cls_17) (pf3) (n1) (en1) (n3) (en3) (u2_1) ((eu2_1)) (u2_2) ((eu2_2)) (w1) (ew1) (w3) (ew3) (show inr (a1) from h0) (show inr (a2) from h1) (show 0 ≤ (u2_1) ∧ (u2_1) ≤ (n3) ∧ (n3) ≤ 65536 from h4) (show (a2) < 0 ∨ 0 ≤ (a1) ∧ (a1) + (a2) ≤ (n1) from q_3310 h3) (fun σ7 D7ₚ N7ₚ F7ₚ A7ₚ c7 s7 Hₚ Oₚ hD7 hN7 hS7 hA7 pm7_2 m7_2 em7_2 y7_0_1 ey7_0_1 y7_0_2 ey7_0_2 w7_2 ew7_2 pz7_0 pz7_1 pz7_2 pz7_3 => ⟨rfl, ?_⟩))
    refine v_backMc (c := c) (s := s) H oz_D5cls_12 oz_D5cls_17 Hₚ Oₚ hD7 oz_D5cls_13 (fun D7 N7 F7 A7 H Oₚ eD7 eN7 eF7 eA7 => ?_)
    have O := OUT_trans O Oₚ
    -- Row.addPart
    have cF7 : SF oz_D5clsl_4 F F7 := SF_trans (SF_refl) (SF_gluc (ι := oz_D5clsl_6) oz_D5cls_17 hS7 eF7 (by decide +kernel)) (any_sub (lₚ := [(2, 0), (2, 1), (2, 2)]) (by decide +kernel))
    have mF7 := SFm_of cF7 oz_D5cls_15
    have cA7 : SA oz_D5clsl_5 A A7 := SA_trans (SA_refl) (SA_gluc (ι := oz_D5clsl_6) oz_D5cls_17 hA7 eA7 (by decide +kernel)) (any_subA (lₚ := [3]) (by decide +kernel))
    have mA7 := SAm_of cA7 oz_D5cls_16
    have cD7 : SD oz_D5clsl_5 D D7 := SD_trans (SD_refl) (SD_gluc (ι := oz_D5clsl_6) oz_D5cls_17 hD7 eD7 (by decide +kernel)) (any_subA (lₚ := [3]) (by decide +kernel))
    have mD7 := SDm_of cD7 oz_D5cls_16
    have cN7 : SD oz_D5clsl_5 N N7 := SD_trans (SD_refl) (SD_gluc (ι := oz_D5clsl_6) oz_D5cls_17 hN7 eN7 (by decide +kernel)) (any_subA (lₚ := [3]) (by decide +kernel))
    have mN7 := SDm_of cN7 oz_D5cls_16
    have pf7_2_0 : F7 2 0 = (D7 3 : Int) := (eF7 2 0).trans (pm7_2.trans (congrArg (fun q : Nat => (q : Int)) (eD7 3).symm))
    have r8 : (0 : Int) ≤ m7_2 ∧ m7_2 ≤ 1000000 := nleE (H.nle 3 (ltn len_V229_oz_D5cls rfl)) (show (N7 3 : Int) = m7_2 from (congrArg (fun q : Nat => (q : Int)) (eN7 3)).trans em7_2)
    have r9 : (-2147483648 : Int) ≤ y7_0_1 ∧ y7_0_1 ≤ 2147483647 := rngE (show (-2147483648 : Int) ≤ F7 2 1 ∧ F7 2 1 ≤ 2147483647 from H.krg 2 1 (ltn len_V229_oz_D5cls rfl)) (show F7 2 1 = y7_0_1 from ((eF7 2 1).trans ey7_0_1))
    have r10 : (0 : Int) ≤ y7_0_2 ∧ y7_0_2 ≤ 1 := rngE (show (0 : Int) ≤ F7 2 2 ∧ F7 2 2 ≤ 1 from H.krg 2 2 (ltn len_V229_oz_D5cls rfl)) (show F7 2 2 = y7_0_2 from ((eF7 2 2).trans ey7_0_2))
    have hap := RAP_from (a := 0) (pz7_3 (by omega)) (by omega) (by omega) (by rw [sc_lenI (by omega)]; omega) (by omega)
    have hbu := hap.1
    have : IMP ((0 : Int) = 0) (sc ((w7_2)) 0 ((y7_0_1)) = sc ((w3)) 0 ((u2_1)) ++ sc (ub8 ((w1))) ((a1)) ((a1) + (a2))) := fun _ => by rw [hap.2, sc_ub8]
    refine Ew_of (pcₚ := 41) (fun _ => x_iconst rfl) ?_
    exact w_ireturn rfl (k (0) _ _ _ _ _ _ _ H O (cD7) (cN7) (cF7) (cA7) (pf7_2_0) (m7_2) ((congrArg (fun q : Nat => (q : Int)) (eN7 3)).trans em7_2) (u0_12) ((((show F7 0 12 = F 0 12 from (eF7 0 12))).trans (eu0_12))) (y7_0_1) (((eF7 2 1).trans ey7_0_1)) (y7_0_2) (((eF7 2 2).trans ey7_0_2)) (w7_2) ((eA7 3).trans ew7_2) (show inr (0) from q_2) (show 0 ≤ (0) ∧ (0) ≤ 3 by first | exact q_548 | omega) (show 0 ≤ (y7_0_1) ∧ (y7_0_1) ≤ (m7_2) ∧ (m7_2) ≤ 65536 from pz7_0) (show (u2_1) ≤ (y7_0_1) ∧ (y7_0_1) ≤ a3 from q_3312 b6 h3 h5 pz7_1) (show (y7_0_2) = 0 by omega) (show (0) = 3 ∧ a3 - (u2_1) < a2 ∧ (u0_12) = a1 + (a3 - (u2_1)) ∨ (0) = 0 ∧ a2 ≤ a3 - (u2_1) ∧ (u0_12) = (u0_12) by first | exact q_3311 b6 | omega) (show IMP ((0) = 0) (sc ((w7_2)) 0 ((y7_0_1)) = sc ((w3)) 0 ((u2_1)) ++ sc (ub8 ((w1))) (a1) (a1 + a2)) by assumption))
  · refine Ew_of (pcₚ := 18) (fun _ => x_aload_n rfl (rk_o (rfl) rfl rfl)) ?_
    refine Ew_of (pcₚ := 19) (fun _ => x_iconst rfl) ?_
    refine Ew_of (pcₚ := 20) (fun _ => x_iload_n rfl (rk_o (rfl) rfl rfl)) ?_
    refine Ew_of (pcₚ := 22) (fun _ => x_iload rfl rk_s) ?_
    refine w_iadd rfl ?_
    refine v_inv H (o := 0) rfl rfl rfl rfl rfl rfl (by rfl) (C221 (D := puc 0 D) (N := puc 0 N) (HW_subc H oz_D5cls_14 oz_D5cls_10) (u0_12) ((eu0_12)) (show inr (3) from q_246) (show inr ((a1 + (a3 - u2_1))) from q_3313 b6 h3 h5) (fun z11 σ11 F11ₚ A11ₚ Hₚ Oₚ hS11 hA11 y11_0_12 ey11_0_12 pz11_0 pz11_1 pz11_2 => ⟨rfl, ?_⟩))
    refine v_backc (c := c) (s := s) H oz_D5cls_14 oz_D5cls_10 Hₚ Oₚ (fun F11 A11 H Oₚ eF11 eA11 => ?_)
    have O := OUT_trans O Oₚ
    -- Tokens.fail
    have cF11 : SF oz_D5clsl_4 F F11 := SF_trans (SF_refl) (SF_gluc (ι := oz_D5clsl_3) oz_D5cls_10 hS11 eF11 (by decide +kernel)) (any_sub (lₚ := [(0, 12)]) (by decide +kernel))
    have mF11 := SFm_of cF11 oz_D5cls_15
    have cA11 : SA oz_D5clsl_5 A A11 := SA_trans (SA_refl) (SA_gluc (ι := oz_D5clsl_3) oz_D5cls_10 hA11 eA11 (by decide +kernel)) (any_subA (lₚ := []) (by decide +kernel))
    have mA11 := SAm_of cA11 oz_D5cls_16
    have r12 : (-2147483648 : Int) ≤ y11_0_12 ∧ y11_0_12 ≤ 2147483647 := rngE (show (-2147483648 : Int) ≤ F11 0 12 ∧ F11 0 12 ≤ 2147483647 from H.krg 0 12 (ltn len_V229_oz_D5cls rfl)) (show F11 0 12 = y11_0_12 from ((eF11 0 12).trans ey11_0_12))
    have : IMP ((z11) = 0) (sc ((w3)) 0 ((u2_1)) = sc ((w3)) 0 ((u2_1)) ++ sc (ub8 ((w1))) ((a1)) ((a1) + (a2))) := fun z => absurd z (by omega)
    exact w_ireturn rfl (k (z11) _ _ _ _ _ _ _ H O (SD_refl) (SD_refl) (cF11) (cA11) ((((show F11 2 0 = F 2 0 from (eF11 2 0)))).trans (pf3)) (n3) (en3) (y11_0_12) (((eF11 0 12).trans ey11_0_12)) (u2_1) ((((show F11 2 1 = F 2 1 from (eF11 2 1))).trans (eu2_1))) (u2_2) ((((show F11 2 2 = F 2 2 from (eF11 2 2))).trans (eu2_2))) (w3) (((show A11 3 = A 3 from (eA11 3))).trans (ew3)) (show inr (z11) from pz11_0) (show 0 ≤ (z11) ∧ (z11) ≤ 3 from q_3115 pz11_1) (show 0 ≤ (u2_1) ∧ (u2_1) ≤ (n3) ∧ (n3) ≤ 65536 from h4) (show (u2_1) ≤ (u2_1) ∧ (u2_1) ≤ a3 from q_3315 h5) (show (u2_2) = 0 from h6) (show (z11) = 3 ∧ a3 - (u2_1) < a2 ∧ (y11_0_12) = a1 + (a3 - (u2_1)) ∨ (z11) = 0 ∧ a2 ≤ a3 - (u2_1) ∧ (y11_0_12) = (u0_12) from q_3314 b6 pz11_1 pz11_2) (show IMP ((z11) = 0) (sc ((w3)) 0 ((u2_1)) = sc ((w3)) 0 ((u2_1)) ++ sc (ub8 ((w1))) (a1) (a1 + a2)) by assumption))
abbrev V228 : vV := [(0, 11, [(4, 0), (4, 0), (4, 0), (4, 0), (4, 0), (0, 0), (4, 0), (0, 0), (0, 0), (0, 0), (0, 0), (0, 0), (0, 0)]), (1, 0, []), (0, 7, [(4, 0), (0, 0), (1, 0), (0, 0), (0, 0)]), (1, 0, []), (0, 7, [(4, 0), (0, 0), (1, 0), (0, 0), (0, 0)]), (1, 0, [])]
theorem len_V228_oz_D5cls : (V228).length = 6 := by decide +kernel
theorem oz_D5cls_19 : vsub V228 V41_Br [1] = true := by decide +kernel
theorem oz_D5cls_20 : vsub V228 V224 [0, 1, 2, 3, 4, 5] = true := by decide +kernel
theorem oz_D5cls_21 : vmov V228 [0, 1, 2, 3, 4, 5] [3] = true := by decide +kernel
theorem oz_D5cls_22 : vsub V228 V229 [0, 1, 2, 3] = true := by decide +kernel
theorem oz_D5cls_23 : vmov V228 [0, 1, 2, 3] [3] = true := by decide +kernel
theorem oz_D5cls_24 : vsub V228 V49_Br [1] = true := by decide +kernel
theorem oz_D5cls_25 : vsub V228 V221 [0] = true := by decide +kernel
def oz_D5clsl_7 : List (Nat × Nat) := [(0, 11), (0, 12), (2, 0), (2, 1), (2, 2)]
theorem oz_D5cls_26 : (oz_D5clsl_7).all (fun p => !tbz 129127208515966867456 (Nat.add (Nat.mul 32 p.1) p.2)) = true := by decide +kernel
def oz_D5clsl_8 : List Nat := [0, 1, 2, 3, 4, 5]
theorem oz_D5cls_27 : okc oz_D5clsl_8 176197141529088 = true := by decide +kernel
def oz_D5clsl_9 : List Nat := [0, 1, 2, 3]
theorem oz_D5cls_28 : okc oz_D5clsl_9 403177984 = true := by decide +kernel
set_option maxHeartbeats 16000000 in
theorem C228 {σE : rS} {D N : Nat → Nat} {F : hF} {A : hA} {d c s : Nat} {Q : wQ} (H : HW V228 σE D N F A) {a1 : Int} (pf1 : F 0 4 = (D 1 : Int)) (pf2 : F 0 6 = (D 2 : Int)) (pf3 : F 2 0 = (D 3 : Int)) (pf4 : F 0 1 = (D 4 : Int)) (pf5 : F 4 0 = (D 5 : Int)) (n1 : Int) (en1 : (N 1 : Int) = n1) (n3 : Int) (en3 : (N 3 : Int) = n3) (n5 : Int) (en5 : (N 5 : Int) = n5) (u0_5 : Int) (eu0_5 : F 0 5 = u0_5) (u0_7 : Int) (eu0_7 : F 0 7 = u0_7) (u0_8 : Int) (eu0_8 : F 0 8 = u0_8) (u0_9 : Int) (eu0_9 : F 0 9 = u0_9) (u0_10 : Int) (eu0_10 : F 0 10 = u0_10) (u0_12 : Int) (eu0_12 : F 0 12 = u0_12) (u2_1 : Int) (eu2_1 : F 2 1 = u2_1) (u2_2 : Int) (eu2_2 : F 2 2 = u2_2) (u4_1 : Int) (eu4_1 : F 4 1 = u4_1) (w1 : Int → Int) (ew1 : A 1 = w1) (w3 : Int → Int) (ew3 : A 3 = w3) (w5 : Int → Int) (ew5 : A 5 = w5) (h0 : inr (a1)) (h1 : 0 ≤ (u0_5) ∧ (u0_5) ≤ (n1) ∧ (n1) ≤ 65536) (h2 : 0 ≤ (a1) ∧ (a1) ≤ (u0_5)) (h3 : 0 ≤ (u2_1) ∧ (u2_1) ≤ (n3) ∧ (n3) ≤ 65536) (h4 : 0 ≤ (u4_1) ∧ (u4_1) ≤ (n5) ∧ (n5) ≤ 65536) (h5 : 0 ≤ (u0_7) ∧ (u0_7) ≤ 65536 ∧ (u2_1) ≤ (u0_7)) (h6 : 0 ≤ (u0_10) ∧ (u0_10) ≤ (u2_1)) (h7 : 65536 ≤ (u0_9) ∧ (u0_9) ≤ 4194304) (h8 : (u2_2) = 0) (k : ∀ (z : Int) (σ : rS) (Dₚ Nₚ : Nat → Nat) (Fₚ : hF) (Aₚ : hA) (cₚ sₚ : Nat), HW V228 σ Dₚ Nₚ Fₚ Aₚ → OUT (V228).length D N σE c s Dₚ Nₚ σ cₚ sₚ → SD [3] D Dₚ → SD [3] N Nₚ → SF [(0, 11), (0, 12), (2, 0), (2, 1), (2, 2)] F Fₚ → SA [3] A Aₚ → Fₚ 2 0 = (Dₚ 3 : Int) → ∀ m3 : Int, (Nₚ 3 : Int) = m3 → ∀ y0_12 : Int, Fₚ 0 12 = y0_12 → ∀ y2_1 : Int, Fₚ 2 1 = y2_1 → ∀ y2_2 : Int, Fₚ 2 2 = y2_2 → ∀ v3 : Int → Int, Aₚ 3 = v3 → (inr (z)) → (0 ≤ (z) ∧ (z) ≤ 9) → (0 ≤ (y2_1) ∧ (y2_1) ≤ (m3) ∧ (m3) ≤ 65536) → ((u2_1) ≤ (y2_1) ∧ (y2_1) ≤ (u0_7)) → ((z) = 0 → (a1) + 4 ≤ (y0_12) ∧ (y0_12) ≤ (u0_5)) → ((y2_2) = 0) → (IMP ((z) = 0) (TRB (ub8 ((w1))) ((u0_5)) ((u0_7)) ((u0_8)) ((u0_9)) ((u0_10)) (sc ((w5)) 0 ((u4_1))) ((a1)) (sc ((w3)) 0 ((u2_1))) (0, 0, (y0_12), sc ((v3)) 0 ((y2_1))))) → (IMP ((z) ≠ 0) (TRB (ub8 ((w1))) ((u0_5)) ((u0_7)) ((u0_8)) ((u0_9)) ((u0_10)) (sc ((w5)) 0 ((u4_1))) ((a1)) (sc ((w3)) 0 ((u2_1))) ((z), (y0_12), 0, []))) → Q (some (I z)) σ cₚ sₚ) : Ew 228 (d + 4) 0 (rargs 0 [.ref (D 0), I a1]) [] σE c s Q := by
  have O := OUT_refl (n := (V228).length) (D := D) (N := N) (σ := σE) (c := c) (s := s)
  have HE := H
  have r1 : (-2147483648 : Int) ≤ u0_5 ∧ u0_5 ≤ 2147483647 := rngE (show (-2147483648 : Int) ≤ F 0 5 ∧ F 0 5 ≤ 2147483647 from H.krg 0 5 (ltn len_V228_oz_D5cls rfl)) (show F 0 5 = u0_5 from (eu0_5))
  have r2 : (-2147483648 : Int) ≤ u0_7 ∧ u0_7 ≤ 2147483647 := rngE (show (-2147483648 : Int) ≤ F 0 7 ∧ F 0 7 ≤ 2147483647 from H.krg 0 7 (ltn len_V228_oz_D5cls rfl)) (show F 0 7 = u0_7 from (eu0_7))
  have r3 : (-2147483648 : Int) ≤ u0_8 ∧ u0_8 ≤ 2147483647 := rngE (show (-2147483648 : Int) ≤ F 0 8 ∧ F 0 8 ≤ 2147483647 from H.krg 0 8 (ltn len_V228_oz_D5cls rfl)) (show F 0 8 = u0_8 from (eu0_8))
  have r4 : (-2147483648 : Int) ≤ u0_9 ∧ u0_9 ≤ 2147483647 := rngE (show (-2147483648 : Int) ≤ F 0 9 ∧ F 0 9 ≤ 2147483647 from H.krg 0 9 (ltn len_V228_oz_D5cls rfl)) (show F 0 9 = u0_9 from (eu0_9))
  have r5 : (-2147483648 : Int) ≤ u0_10 ∧ u0_10 ≤ 2147483647 := rngE (show (-2147483648 : Int) ≤ F 0 10 ∧ F 0 10 ≤ 2147483647 from H.krg 0 10 (ltn len_V228_oz_D5cls rfl)) (show F 0 10 = u0_10 from (eu0_10))
  have r6 : (-2147483648 : Int) ≤ u0_12 ∧ u0_12 ≤ 2147483647 := rngE (show (-2147483648 : Int) ≤ F 0 12 ∧ F 0 12 ≤ 2147483647 from H.krg 0 12 (ltn len_V228_oz_D5cls rfl)) (show F 0 12 = u0_12 from (eu0_12))
  have r7 : (-2147483648 : Int) ≤ u2_1 ∧ u2_1 ≤ 2147483647 := rngE (show (-2147483648 : Int) ≤ F 2 1 ∧ F 2 1 ≤ 2147483647 from H.krg 2 1 (ltn len_V228_oz_D5cls rfl)) (show F 2 1 = u2_1 from (eu2_1))
  have r8 : (0 : Int) ≤ u2_2 ∧ u2_2 ≤ 1 := rngE (show (0 : Int) ≤ F 2 2 ∧ F 2 2 ≤ 1 from H.krg 2 2 (ltn len_V228_oz_D5cls rfl)) (show F 2 2 = u2_2 from (eu2_2))
  have r9 : (-2147483648 : Int) ≤ u4_1 ∧ u4_1 ≤ 2147483647 := rngE (show (-2147483648 : Int) ≤ F 4 1 ∧ F 4 1 ≤ 2147483647 from H.krg 4 1 (ltn len_V228_oz_D5cls rfl)) (show F 4 1 = u4_1 from (eu4_1))
  have r10 : (0 : Int) ≤ n1 ∧ n1 ≤ 1000000 := nleE (H.nle 1 (ltn len_V228_oz_D5cls rfl)) (show (N 1 : Int) = n1 from en1)
  have r11 : (0 : Int) ≤ n3 ∧ n3 ≤ 1000000 := nleE (H.nle 3 (ltn len_V228_oz_D5cls rfl)) (show (N 3 : Int) = n3 from en3)
  have r12 : (0 : Int) ≤ n5 ∧ n5 ≤ 1000000 := nleE (H.nle 5 (ltn len_V228_oz_D5cls rfl)) (show (N 5 : Int) = n5 from en5)
  refine Ew_of (pcₚ := 1) (fun _ => x_iload_n rfl rfl) ?_
  refine Ew_of (pcₚ := 2) (fun _ => x_istore_n rfl) ?_
  refine Ew_of (pcₚ := 3) (fun _ => x_iload_n rfl (rk_o (rfl) rfl rfl)) ?_
  refine Ew_of (pcₚ := 4) (fun _ => x_istore_n rfl) ?_
  have : ITO (TRs (ub8 ((w1))) ((u0_5)) ((u0_7)) ((u0_8)) ((u0_9)) ((u0_10)) (sc ((w5)) 0 ((u4_1)))) (TRe (ub8 ((w1))) ((u0_5)) ((u0_7)) ((u0_8)) ((u0_9)) ((u0_10)) (sc ((w5)) 0 ((u4_1)))) ((a1), sc ((w3)) 0 ((u2_1))) ((a1), sc ((w3)) 0 ((u2_1))) := ITO_0
  suffices hl4 : ∀ (m : Nat), ∀ (ls : rO) (σ : rS) (D_4 N_4 : Nat → Nat) (c_4 s_4 : Nat) (F_4 : hF) (A_4 : hA) (x4_2 : Int) (x4_3 : Int), rlook ls 0 = some (.ref (D_4 0)) → rlook ls 2 = some (I (x4_2)) → rlook ls 3 = some (I (x4_3)) → HW V228 σ D_4 N_4 F_4 A_4 → OUT (V228).length D N σE c s D_4 N_4 σ c_4 s_4 → SD [3] D D_4 → SD [3] N N_4 → SF [(0, 11), (0, 12), (2, 0), (2, 1), (2, 2)] F F_4 → SA [3] A A_4 → F_4 2 0 = (D_4 3 : Int) → ∀ m4_3 : Int, (N_4 3 : Int) = m4_3 → ∀ y4_2_1 : Int, F_4 2 1 = y4_2_1 → ∀ y4_2_2 : Int, F_4 2 2 = y4_2_2 → ∀ w4_3 : Int → Int, A_4 3 = w4_3 → (inr (x4_2)) → (inr (x4_3)) → ((a1) ≤ (x4_3)) → ((x4_3) ≤ (a1) ∨ (x4_3) ≤ (((u0_5) + 1))) → ((a1) ≤ (x4_2) ∧ (x4_2) ≤ (u0_5)) → (0 ≤ (y4_2_1) ∧ (y4_2_1) ≤ (m4_3) ∧ (m4_3) ≤ 65536) → ((u2_1) ≤ (y4_2_1) ∧ (y4_2_1) ≤ (u0_7)) → ((y4_2_2) = 0) → ((x4_3) ≤ (x4_2)) → (ITO (TRs (ub8 ((w1))) ((u0_5)) ((u0_7)) ((u0_8)) ((u0_9)) ((u0_10)) (sc ((w5)) 0 ((u4_1)))) (TRe (ub8 ((w1))) ((u0_5)) ((u0_7)) ((u0_8)) ((u0_9)) ((u0_10)) (sc ((w5)) 0 ((u4_1)))) ((a1), sc ((w3)) 0 ((u2_1))) ((x4_2), sc ((w4_3)) 0 ((y4_2_1)))) → ((((u0_5) + 1)) - (x4_3)).toNat = m → Ew 228 (d + 4) 4 ls [] σ c_4 s_4 Q from
    hl4 _ _ _ _ _ _ _ _ _ (a1) (a1) (rk_o (rk_o (rfl) rfl rfl) rfl rfl) (rk_o (rk_s) rfl rfl) (rk_s) H O (SD_refl) (SD_refl) (SF_refl) (SA_refl) (pf3) (n3) (en3) (u2_1) ((eu2_1)) (u2_2) ((eu2_2)) (w3) (ew3) (show inr (a1) from h0) (show inr (a1) from h0) (show (a1) ≤ (a1) from q_43) (show (a1) ≤ (a1) ∨ (a1) ≤ (((u0_5) + 1)) from q_3101) (show (a1) ≤ (a1) ∧ (a1) ≤ (u0_5) from q_988 h2) (show 0 ≤ (u2_1) ∧ (u2_1) ≤ (n3) ∧ (n3) ≤ 65536 from h3) (show (u2_1) ≤ (u2_1) ∧ (u2_1) ≤ (u0_7) from q_735 h5) (show (u2_2) = 0 from h8) (show (a1) ≤ (a1) from q_43) (show ITO (TRs (ub8 ((w1))) ((u0_5)) ((u0_7)) ((u0_8)) ((u0_9)) ((u0_10)) (sc ((w5)) 0 ((u4_1)))) (TRe (ub8 ((w1))) ((u0_5)) ((u0_7)) ((u0_8)) ((u0_9)) ((u0_10)) (sc ((w5)) 0 ((u4_1)))) ((a1), sc ((w3)) 0 ((u2_1))) ((a1), sc ((w3)) 0 ((u2_1))) by assumption) rfl
  as_aux_lemma =>
  intro m
  induction m using Nat.strongRecOn with
  | _ m ih4 =>
    intro ls σ D_4 N_4 c_4 s_4 F_4 A_4 x4_2 x4_3 l4_0 l4_2 l4_3 H O hD_4 hN_4 hS_4 hA_4 pm4_3 m4_3 em4_3 y4_2_1 ey4_2_1 y4_2_2 ey4_2_2 w4_3 ew4_3 j4_0 j4_1 j4_2 j4_3 j4_4 j4_5 j4_6 j4_7 j4_8 j4_9 hm4
    have cF_4 : SF oz_D5clsl_7 F F_4 := SF_trans (SF_refl) hS_4 (any_sub (by decide +kernel))
    have mF_4 := SFm_of cF_4 oz_D5cls_26
    have cA_4 : SA oz_D5clsl_5 A A_4 := SA_trans (SA_refl) hA_4 (any_subA (by decide +kernel))
    have mA_4 := SAm_of cA_4 oz_D5cls_16
    have cD_4 : SD oz_D5clsl_5 D D_4 := SD_trans (SD_refl) hD_4 (any_subA (by decide +kernel))
    have mD_4 := SDm_of cD_4 oz_D5cls_16
    have cN_4 : SD oz_D5clsl_5 N N_4 := SD_trans (SD_refl) hN_4 (any_subA (by decide +kernel))
    have mN_4 := SDm_of cN_4 oz_D5cls_16
    have r13 : (0 : Int) ≤ m4_3 ∧ m4_3 ≤ 1000000 := nleE (H.nle 3 (ltn len_V228_oz_D5cls rfl)) (show (N_4 3 : Int) = m4_3 from em4_3)
    have r14 : (-2147483648 : Int) ≤ y4_2_1 ∧ y4_2_1 ≤ 2147483647 := rngE (show (-2147483648 : Int) ≤ F_4 2 1 ∧ F_4 2 1 ≤ 2147483647 from H.krg 2 1 (ltn len_V228_oz_D5cls rfl)) (show F_4 2 1 = y4_2_1 from (ey4_2_1))
    have r15 : (0 : Int) ≤ y4_2_2 ∧ y4_2_2 ≤ 1 := rngE (show (0 : Int) ≤ F_4 2 2 ∧ F_4 2 2 ≤ 1 from H.krg 2 2 (ltn len_V228_oz_D5cls rfl)) (show F_4 2 2 = y4_2_2 from (ey4_2_2))
    have j4_i : ITO (TRs (ub8 ((w1))) ((u0_5)) ((u0_7)) ((u0_8)) ((u0_9)) ((u0_10)) (sc ((w5)) 0 ((u4_1)))) (TRe (ub8 ((w1))) ((u0_5)) ((u0_7)) ((u0_8)) ((u0_9)) ((u0_10)) (sc ((w5)) 0 ((u4_1)))) ((a1), sc ((w3)) 0 ((u2_1))) ((x4_2), sc ((w4_3)) 0 ((y4_2_1))) := by assumption
    obtain ⟨q2, hq2⟩ : ∃ q : Int, q = (x4_2) := ⟨_, rfl⟩
    obtain ⟨CX, hCX⟩ : ∃ q : List Int, q = sc ((w4_3)) 0 ((y4_2_1)) := ⟨_, rfl⟩
    have j4_x : ITO (TRs (ub8 ((w1))) ((u0_5)) ((u0_7)) ((u0_8)) ((u0_9)) ((u0_10)) (sc ((w5)) 0 ((u4_1)))) (TRe (ub8 ((w1))) ((u0_5)) ((u0_7)) ((u0_8)) ((u0_9)) ((u0_10)) (sc ((w5)) 0 ((u4_1)))) ((a1), sc ((w3)) 0 ((u2_1))) (q2, CX) := by rw [hq2, hCX]; exact j4_i
    have hCl : (CX.length : Int) = (y4_2_1) := by rw [hCX, sc_lenI (by omega)]; omega
    refine Ew_of (pcₚ := 5) (fun _ => x_iload_n rfl l4_3) ?_
    refine Ew_of (pcₚ := 6) (fun _ => x_aload_n rfl l4_0) ?_
    refine v_g H (o := 0) (v := I (u0_5)) rfl rfl rfl rfl rfl (congrArg (fun z : Int => I z) (((mF_4 0 5 rfl).trans (eu0_5)) : F_4 0 5 = u0_5)) ?_
    refine w_icmpgt (t := 290) rfl rfl (show inr (x4_3) from j4_1) (show inr (u0_5) from q_38 h1) (fun b16 => ?_) (fun b16 => ?_)
    · exfalso
      omega
    · refine Ew_of (pcₚ := 13) (fun _ => x_aload_n rfl l4_0) ?_
      refine v_g H (o := 0) (v := I (u0_5)) rfl rfl rfl rfl rfl (congrArg (fun z : Int => I z) (((mF_4 0 5 rfl).trans (eu0_5)) : F_4 0 5 = u0_5)) ?_
      refine Ew_of (pcₚ := 17) (fun _ => x_iload_n rfl l4_2) ?_
      refine w_isub rfl ?_
      refine Ew_of (pcₚ := 19) (fun _ => x_iconst rfl) ?_
      refine w_icmpge (t := 32) rfl rfl (show inr ((u0_5 - x4_2)) from q_3316 h1 h2 j4_4) (show inr (4) from q_216) (fun b17 => ?_) (fun b17 => ?_)
      · refine Ew_of (pcₚ := 33) (fun _ => x_aload_n rfl l4_0) ?_
        refine v_g H (o := 0) (v := .ref (D_4 1)) rfl rfl rfl rfl rfl (vrf ((mF_4 0 4 rfl).trans ((pf1).trans (congrArg (fun q : Nat => (q : Int)) (mD_4 1 rfl).symm)))) ?_
        refine Ew_of (pcₚ := 37) (fun _ => x_iload_n rfl l4_2) ?_
        refine w_stat25 rfl rfl (by rfl) (C41_Br (D := puc 1 D_4) (N := puc 1 N_4) (HW_subc H oz_D5cls_19 oz_D5cls_8) (n1) ((congrArg (fun q : Nat => (q : Int)) (mN_4 1 rfl)).trans (en1)) (w1) ((funext (mA_4 1 rfl)).trans (ew1)) (show inr (x4_2) from j4_0) (show 0 ≤ (x4_2) ∧ (x4_2) + 4 ≤ (n1) from q_3317 b17 h1 h2 j4_4) (fun z18 σ18 F18ₚ A18ₚ Hₚ Oₚ hS18 hA18 pz18_0 pz18_1 => ⟨rfl, ?_⟩))
        refine v_backc (c := c_4) (s := s_4) H oz_D5cls_19 oz_D5cls_8 Hₚ Oₚ (fun F18 A18 H Oₚ eF18 eA18 => ?_)
        have O := OUT_trans O Oₚ
        -- PackHouse.word
        have cF18 : SF oz_D5clsl_7 F F18 := SF_trans (cF_4) (SF_gluc (ι := oz_D5clsl_2) oz_D5cls_8 hS18 eF18 (by decide +kernel)) (any_sub (lₚ := []) (by decide +kernel))
        have mF18 := SFm_of cF18 oz_D5cls_26
        have cA18 : SA oz_D5clsl_5 A A18 := SA_trans (cA_4) (SA_gluc (ι := oz_D5clsl_2) oz_D5cls_8 hA18 eA18 (by decide +kernel)) (any_subA (lₚ := []) (by decide +kernel))
        have mA18 := SAm_of cA18 oz_D5cls_16
        have hwd := wdm pz18_1
        have hwi := pz18_0
        obtain ⟨hwn, hwn_⟩ : ∃ q : Int, q = nvl (ub8 ((w1))) (q2) 4 := ⟨_, rfl⟩
        have hwr := nvl_n (f := ub8 ((w1))) (a := q2)
        rw [← hq2] at hwd
        refine Ew_of (pcₚ := 42) (fun _ => x_istore rfl) ?_
        refine Ew_of (pcₚ := 44) (fun _ => x_iload rfl rk_s) ?_
        refine Ew_of (pcₚ := 46) (fun _ => x_ldc (z := 2147483647) rfl (by decide)) ?_
        refine w_iandE rfl (show inr (z18) from pz18_0) (show inr (2147483647) from q_3318) (fun z19 gz19 gaz19 gbz19 gez19 => ?_)
        have hg31 := gez19
        have hm31 : (z19) = (z18) % 2147483648 := by rw [← andI_m31]; exact hg31.symm
        refine Ew_of (pcₚ := 49) (fun _ => x_istore rfl) ?_
        refine Ew_of (pcₚ := 51) (fun _ => x_iload rfl (rk_o (rk_s) rfl rfl)) ?_
        refine w_ifne (t := 63) rfl rfl (show inr (z18) from pz18_0) (fun b20 => ?_) (fun b20 => ?_)
        · refine Ew_of (pcₚ := 65) (fun _ => x_iload rfl rk_s) ?_
          refine Ew_of (pcₚ := 66) (fun _ => x_aload_n rfl (rk_o (rk_o (l4_0) rfl rfl) rfl rfl)) ?_
          refine v_g H (o := 0) (v := I (u0_9)) rfl rfl rfl rfl rfl (congrArg (fun z : Int => I z) (((mF18 0 9 rfl).trans (eu0_9)) : F18 0 9 = u0_9)) ?_
          refine w_icmple (t := 80) rfl rfl (show inr (z19) from gz19) (show inr (u0_9) from q_3319 h7 r4) (fun b21 => ?_) (fun b21 => ?_)
          · refine Ew_of (pcₚ := 81) (fun _ => x_iload_n rfl (rk_o (rk_o (l4_2) rfl rfl) rfl rfl)) ?_
            refine Ew_of (pcₚ := 82) (fun _ => x_iconst rfl) ?_
            refine w_iadd rfl ?_
            refine Ew_of (pcₚ := 85) (fun _ => x_istore rfl) ?_
            refine Ew_of (pcₚ := 86) (fun _ => x_aload_n rfl (rk_o (rk_o (rk_o (l4_0) rfl rfl) rfl rfl) rfl rfl)) ?_
            refine v_g H (o := 0) (v := I (u0_8)) rfl rfl rfl rfl rfl (congrArg (fun z : Int => I z) (((mF18 0 8 rfl).trans (eu0_8)) : F18 0 8 = u0_8)) ?_
            refine Ew_of (pcₚ := 91) (fun _ => x_bipush (z := 16) rfl (by decide)) ?_
            refine w_iandE rfl (show inr (u0_8) from q_18 r3) (show inr (16) from q_345) (fun z22 gz22 gaz22 gbz22 gez22 => ?_)
            refine w_ifeq (t := 99) rfl rfl (show inr (z22) from gz22) (fun b23 => ?_) (fun b23 => ?_)
            · refine Ew_of (pcₚ := 100) (fun _ => x_iconst rfl) ?_
              refine Ew_of (pcₚ := 102) (fun _ => x_istore rfl) ?_
              have hss : (0) = TRss ((u0_8)) := by first | (rw [TRss_0 (by omega)]) | (rw [TRss_4 (by omega)])
              refine Ew_of (pcₚ := 103) (fun _ => x_aload_n rfl (rk_o (rk_o (rk_o (rk_o (l4_0) rfl rfl) rfl rfl) rfl rfl) rfl rfl)) ?_
              refine v_g H (o := 0) (v := I (u0_5)) rfl rfl rfl rfl rfl (congrArg (fun z : Int => I z) (((mF18 0 5 rfl).trans (eu0_5)) : F18 0 5 = u0_5)) ?_
              refine Ew_of (pcₚ := 108) (fun _ => x_iload rfl (rk_o (rk_s) rfl rfl)) ?_
              refine w_isub rfl ?_
              refine Ew_of (pcₚ := 111) (fun _ => x_iload rfl (rk_o (rk_o (rk_s) rfl rfl) rfl rfl)) ?_
              refine Ew_of (pcₚ := 113) (fun _ => x_iload rfl rk_s) ?_
              refine w_iadd rfl ?_
              refine w_icmpge (t := 127) rfl rfl (show inr ((u0_5 - (x4_2 + 4))) from q_3321 b17 h1 h2 j4_4) (show inr ((z19 + 0)) from q_3320 gz19 hm31) (fun b24 => ?_) (fun b24 => ?_)
              · have hc174 : ∀ (ls : rO) (σ : rS) (F_c174 : hF) (A_c174 : hA) , rlook ls 0 = some (.ref (D_4 0)) → rlook ls 3 = some (I (x4_3)) → rlook ls 4 = some (I (z18)) → rlook ls 5 = some (I (z19)) → rlook ls 6 = some (I ((x4_2 + 4))) → rlook ls 7 = some (I (0)) → HW V228 σ D_4 N_4 F_c174 A_c174 → OUT (V228).length D N σE c s D_4 N_4 σ c_4 s_4 → SF [] F18 F_c174 → SA [] A18 A_c174 → (TRk (ub8 ((w1))) (q2) ((z19)) (TRss ((u0_8)))) → Ew 228 (d + 4) 174 ls [] σ c_4 s_4 Q := by
                 as_aux_lemma =>
                  intro  ls σ F_c174 A_c174  lc174_0 lc174_3 lc174_4 lc174_5 lc174_6 lc174_7 H O hS_c174 hA_c174     jc174_0
                  have cF_c174 : SF oz_D5clsl_7 F F_c174 := SF_trans (cF18) hS_c174 (any_sub (by decide +kernel))
                  have mF_c174 := SFm_of cF_c174 oz_D5cls_26
                  have cA_c174 : SA oz_D5clsl_5 A A_c174 := SA_trans (cA18) hA_c174 (any_subA (by decide +kernel))
                  have mA_c174 := SAm_of cA_c174 oz_D5cls_16
                  have hk174 : TRk (ub8 ((w1))) (q2) ((z19)) (TRss ((u0_8))) := jc174_0
                  refine Ew_of (pcₚ := 175) (fun _ => x_aload_n rfl lc174_0) ?_
                  refine v_g H (o := 0) (v := I (u0_7)) rfl rfl rfl rfl rfl (congrArg (fun z : Int => I z) (((mF_c174 0 7 rfl).trans (eu0_7)) : F_c174 0 7 = u0_7)) ?_
                  refine Ew_of (pcₚ := 179) (fun _ => x_aload_n rfl lc174_0) ?_
                  refine v_g H (o := 0) (v := .ref (D_4 2)) rfl rfl rfl rfl rfl (vrf ((mF_c174 0 6 rfl).trans ((pf2).trans (congrArg (fun q : Nat => (q : Int)) (mD_4 2 rfl).symm)))) ?_
                  refine v_g H (o := 2) (v := I (y4_2_1)) rfl rfl rfl rfl rfl (congrArg (fun z : Int => I z) ((((hS_c174 2 1 rfl).trans ((show F18 2 1 = F_4 2 1 from (eF18 2 1)))).trans (ey4_2_1)) : F_c174 2 1 = y4_2_1)) ?_
                  refine Ew_of (pcₚ := 186) (fun _ => x_aload_n rfl lc174_0) ?_
                  refine v_g H (o := 0) (v := I (u0_9)) rfl rfl rfl rfl rfl (congrArg (fun z : Int => I z) (((mF_c174 0 9 rfl).trans (eu0_9)) : F_c174 0 9 = u0_9)) ?_
                  refine w_iadd rfl ?_
                  refine v_min rfl rfl (show inr (u0_7) from q_3322 h5) (show inr ((y4_2_1 + u0_9)) by omega) (fun z25 gz25 => ?_)
                  have hlim : (z25) = (u0_7) := q_3323 gz25 h5 h7 j4_5
                  refine Ew_of (pcₚ := 195) (fun _ => x_istore rfl) ?_
                  refine Ew_of (pcₚ := 196) (fun _ => x_aload_n rfl (rk_o (lc174_0) rfl rfl)) ?_
                  refine v_g H (o := 0) (v := I (u0_8)) rfl rfl rfl rfl rfl (congrArg (fun z : Int => I z) (((mF_c174 0 8 rfl).trans (eu0_8)) : F_c174 0 8 = u0_8)) ?_
                  refine Ew_of (pcₚ := 201) (fun _ => x_bipush (z := 32) rfl (by decide)) ?_
                  refine w_iandE rfl (show inr (u0_8) from q_18 r3) (show inr (32) from q_655) (fun z26 gz26 gaz26 gbz26 gez26 => ?_)
                  refine w_ifeq (t := 215) rfl rfl (show inr (z26) from gz26) (fun b27 => ?_) (fun b27 => ?_)
                  · refine Ew_of (pcₚ := 216) (fun _ => x_aload_n rfl (rk_o (lc174_0) rfl rfl)) ?_
                    refine v_g H (o := 0) (v := I (u0_10)) rfl rfl rfl rfl rfl (congrArg (fun z : Int => I z) (((mF_c174 0 10 rfl).trans (eu0_10)) : F_c174 0 10 = u0_10)) ?_
                    refine Ew_of (pcₚ := 221) (fun _ => x_istore rfl) ?_
                    have hb9 : (u0_10) = (u0_10) ∧ andI ((u0_8)) 32 = 0 ∨ (u0_10) = (y4_2_1) ∧ andI ((u0_8)) 32 ≠ 0 := q_3324 b27 gez26
                    have hWx : sc ((w5)) 0 ((u4_1)) ++ sc ((w4_3)) ((u0_10)) ((y4_2_1)) = TRh ((u0_8)) (sc ((w5)) 0 ((u4_1))) CX ((u0_10)) := by rw [hCX]; exact TRh_v rfl (by omega) hb9
                    obtain ⟨qcn, hqcn⟩ : ∃ q : Int, q = (y4_2_1) := ⟨_, rfl⟩
                    obtain ⟨qrb, hqrb⟩ : ∃ q : Int → Int, q = (w4_3) := ⟨_, rfl⟩
                    refine Ew_of (pcₚ := 223) (fun _ => x_iload rfl (rk_o (rk_o (lc174_4) rfl rfl) rfl rfl)) ?_
                    refine w_ifge (t := 239) rfl rfl (show inr (z18) from pz18_0) (fun b28 => ?_) (fun b28 => ?_)
                    · refine Ew_of (pcₚ := 240) (fun _ => x_aload_n rfl (rk_o (rk_o (lc174_0) rfl rfl) rfl rfl)) ?_
                      refine Ew_of (pcₚ := 242) (fun _ => x_iload rfl (rk_o (rk_o (lc174_6) rfl rfl) rfl rfl)) ?_
                      refine Ew_of (pcₚ := 244) (fun _ => x_iload rfl (rk_o (rk_o (lc174_6) rfl rfl) rfl rfl)) ?_
                      refine Ew_of (pcₚ := 246) (fun _ => x_iload rfl (rk_o (rk_o (lc174_5) rfl rfl) rfl rfl)) ?_
                      refine w_iadd rfl ?_
                      refine Ew_of (pcₚ := 249) (fun _ => x_iload rfl rk_s) ?_
                      refine Ew_of (pcₚ := 251) (fun _ => x_iload rfl (rk_o (rk_s) rfl rfl)) ?_
                      have r29 : (-2147483648 : Int) ≤ F_4 0 12 ∧ F_4 0 12 ≤ 2147483647 := rngE (show (-2147483648 : Int) ≤ F_c174 0 12 ∧ F_c174 0 12 ≤ 2147483647 from H.krg 0 12 (ltn len_V228_oz_D5cls rfl)) (show F_c174 0 12 = F_4 0 12 from ((hS_c174 0 12 rfl).trans ((show F18 0 12 = F_4 0 12 from (eF18 0 12)))))
                      refine v_inv H (o := 0) rfl rfl rfl rfl rfl rfl (by rfl) (C224 (D := puc 176197141529088 D_4) (N := puc 176197141529088 N_4) (HW_subc H oz_D5cls_20 oz_D5cls_27) ((mF_c174 0 4 rfl).trans ((pf1).trans (congrArg (fun q : Nat => (q : Int)) (mD_4 1 rfl).symm))) ((mF_c174 0 6 rfl).trans ((pf2).trans (congrArg (fun q : Nat => (q : Int)) (mD_4 2 rfl).symm))) ((((hS_c174 2 0 rfl).trans ((show F18 2 0 = F_4 2 0 from (eF18 2 0))))).trans (pm4_3)) ((mF_c174 0 1 rfl).trans ((pf4).trans (congrArg (fun q : Nat => (q : Int)) (mD_4 4 rfl).symm))) ((mF_c174 4 0 rfl).trans ((pf5).trans (congrArg (fun q : Nat => (q : Int)) (mD_4 5 rfl).symm))) (n1) ((congrArg (fun q : Nat => (q : Int)) (mN_4 1 rfl)).trans (en1)) (m4_3) (em4_3) (n5) ((congrArg (fun q : Nat => (q : Int)) (mN_4 5 rfl)).trans (en5)) (F_4 0 12) (((hS_c174 0 12 rfl).trans ((show F18 0 12 = F_4 0 12 from (eF18 0 12))))) (y4_2_1) ((((hS_c174 2 1 rfl).trans ((show F18 2 1 = F_4 2 1 from (eF18 2 1)))).trans (ey4_2_1))) (y4_2_2) ((((hS_c174 2 2 rfl).trans ((show F18 2 2 = F_4 2 2 from (eF18 2 2)))).trans (ey4_2_2))) (u4_1) (((mF_c174 4 1 rfl).trans (eu4_1))) (w1) ((funext (mA_c174 1 rfl)).trans (ew1)) (w4_3) ((funext (hA_c174 3 rfl)).trans (((show A18 3 = A_4 3 from (eA18 3))).trans (ew4_3))) (w5) ((funext (mA_c174 5 rfl)).trans (ew5)) (show inr ((x4_2 + 4)) from q_3331 b17 h1 j4_0) (show inr (((x4_2 + 4) + z19)) from q_3330 b24 h1 hm31 j4_0) (show inr (u0_10) from q_512 h6 r5) (show inr (z25) from q_3329 h5 hlim) (show 0 ≤ ((x4_2 + 4)) ∧ ((x4_2 + 4)) ≤ (((x4_2 + 4) + z19)) ∧ (((x4_2 + 4) + z19)) ≤ (n1) ∧ (n1) ≤ 65536 from q_3328 b24 h1 h2 hm31 j4_4) (show 0 ≤ (y4_2_1) ∧ (y4_2_1) ≤ (m4_3) ∧ (m4_3) ≤ 65536 from j4_5) (show 0 ≤ (u4_1) ∧ (u4_1) ≤ (n5) ∧ (n5) ≤ 65536 from h4) (show 0 ≤ (u0_10) ∧ (u0_10) ≤ (y4_2_1) from q_3327 h6 j4_6) (show 0 ≤ (z25) ∧ (z25) ≤ 65536 from q_3326 h5 hlim) (show (y4_2_2) = 0 ∧ (y4_2_1) ≤ (z25) from q_3325 hlim j4_6 j4_7) (fun z30 σ30 D30ₚ N30ₚ F30ₚ A30ₚ c30 s30 Hₚ Oₚ hD30 hN30 hS30 hA30 pm30_3 m30_3 em30_3 y30_0_12 ey30_0_12 y30_2_1 ey30_2_1 y30_2_2 ey30_2_2 w30_3 ew30_3 pz30_0 pz30_1 pz30_2 pz30_3 pz30_4 pz30_5 pz30_6 pz30_7 pz30_8 => ⟨rfl, ?_⟩))
                      refine v_backMc (c := c_4) (s := s_4) H oz_D5cls_20 oz_D5cls_27 Hₚ Oₚ hD30 oz_D5cls_21 (fun D30 N30 F30 A30 H Oₚ eD30 eN30 eF30 eA30 => ?_)
                      have O := OUT_trans O Oₚ
                      -- Tokens.unpackBlock
                      have cF30 : SF oz_D5clsl_7 F F30 := SF_trans (cF_c174) (SF_gluc (ι := oz_D5clsl_8) oz_D5cls_27 hS30 eF30 (by decide +kernel)) (any_sub (lₚ := [(0, 11), (0, 12), (2, 0), (2, 1), (2, 2)]) (by decide +kernel))
                      have mF30 := SFm_of cF30 oz_D5cls_26
                      have cA30 : SA oz_D5clsl_5 A A30 := SA_trans (cA_c174) (SA_gluc (ι := oz_D5clsl_8) oz_D5cls_27 hA30 eA30 (by decide +kernel)) (any_subA (lₚ := [3]) (by decide +kernel))
                      have mA30 := SAm_of cA30 oz_D5cls_16
                      have cD30 : SD oz_D5clsl_5 D D30 := SD_trans (cD_4) (SD_gluc (ι := oz_D5clsl_8) oz_D5cls_27 hD30 eD30 (by decide +kernel)) (any_subA (lₚ := [3]) (by decide +kernel))
                      have mD30 := SDm_of cD30 oz_D5cls_16
                      have cN30 : SD oz_D5clsl_5 N N30 := SD_trans (cN_4) (SD_gluc (ι := oz_D5clsl_8) oz_D5cls_27 hN30 eN30 (by decide +kernel)) (any_subA (lₚ := [3]) (by decide +kernel))
                      have mN30 := SDm_of cN30 oz_D5cls_16
                      have pf30_2_0 : F30 2 0 = (D30 3 : Int) := (eF30 2 0).trans (pm30_3.trans (congrArg (fun q : Nat => (q : Int)) (eD30 3).symm))
                      have r31 : (0 : Int) ≤ m30_3 ∧ m30_3 ≤ 1000000 := nleE (H.nle 3 (ltn len_V228_oz_D5cls rfl)) (show (N30 3 : Int) = m30_3 from (congrArg (fun q : Nat => (q : Int)) (eN30 3)).trans em30_3)
                      have r32 : (-2147483648 : Int) ≤ y30_0_12 ∧ y30_0_12 ≤ 2147483647 := rngE (show (-2147483648 : Int) ≤ F30 0 12 ∧ F30 0 12 ≤ 2147483647 from H.krg 0 12 (ltn len_V228_oz_D5cls rfl)) (show F30 0 12 = y30_0_12 from ((eF30 0 12).trans ey30_0_12))
                      have r33 : (-2147483648 : Int) ≤ y30_2_1 ∧ y30_2_1 ≤ 2147483647 := rngE (show (-2147483648 : Int) ≤ F30 2 1 ∧ F30 2 1 ≤ 2147483647 from H.krg 2 1 (ltn len_V228_oz_D5cls rfl)) (show F30 2 1 = y30_2_1 from ((eF30 2 1).trans ey30_2_1))
                      have r34 : (0 : Int) ≤ y30_2_2 ∧ y30_2_2 ≤ 1 := rngE (show (0 : Int) ≤ F30 2 2 ∧ F30 2 2 ≤ 1 from H.krg 2 2 (ltn len_V228_oz_D5cls rfl)) (show F30 2 2 = y30_2_2 from ((eF30 2 2).trans ey30_2_2))
                      try have hTBP := pz30_6
                      try have hSMB := pz30_8
                      try rw [← hqrb, ← hqcn] at hSMB
                      try rw [← hqrb, ← hqcn] at hWx
                      try rw [← hqrb, ← hqcn] at hCX
                      try rw [← hqrb, ← hqcn] at hTBP
                      refine Ew_of (pcₚ := 256) (fun _ => x_istore rfl) ?_
                      refine Ew_of (pcₚ := 258) (fun _ => x_iload rfl rk_s) ?_
                      refine w_ifeq (t := 275) rfl rfl (show inr (z30) from pz30_0) (fun b35 => ?_) (fun b35 => ?_)
                      · have hnx : ITO (TRs (ub8 ((w1))) ((u0_5)) ((u0_7)) ((u0_8)) ((u0_9)) ((u0_10)) (sc ((w5)) 0 ((u4_1)))) (TRe (ub8 ((w1))) ((u0_5)) ((u0_7)) ((u0_8)) ((u0_9)) ((u0_10)) (sc ((w5)) 0 ((u4_1)))) ((a1), sc ((w3)) 0 ((u2_1))) (((x4_2 + 4)) + (z19) + (0), sc ((w30_3)) 0 ((y30_2_1))) := by first | (have hp6_ := hp6; exact ITO_s j4_x (TRs_p (w := hwn) (m := (z19)) (by omega) hwn_ (by omega) (by omega) (by omega) (by omega) (by omega) hk174 (by omega) (by omega) (a := ((x4_2 + 4))) (b := ((x4_2 + 4)) + (z19)) (by omega) (by omega) (by rw [hCX]; try rw [hqrb, hqcn]; exact hp6 (by omega)))) | (obtain ⟨pq, Vq, hV1, hV2⟩ := hTBP; have hV0 := hV1; rw [show (z30 : Int) = 0 by omega] at hV0; exact ITO_s j4_x (TRs_b (w := hwn) (m := (z19)) (pl := pq) (X := sc ((w30_3)) (qcn) ((y30_2_1))) (by omega) hwn_ (by omega) (by omega) (by omega) (by omega) (by omega) hk174 (by omega) (by omega) (by omega) hWx (by omega) hV0 (by rcases hV2 with ⟨x, y⟩ | ⟨x, y, z⟩; (omega); ((rw [← z, List.append_assoc]; first | (rw [sc_nil (f := qrb) (a := qcn) (b := qcn) (Int.le_refl _), List.nil_append]; done) | rw [sc_cat (f := (w30_3)) (b := qcn) (by omega) (by omega), sc_same (g := qrb) (fun i u v => hSMB i (by omega) v)]))) (by rw [hCX, sc_cat (f := (w30_3)) (b := qcn) (by omega) (by omega), sc_same (g := qrb) (fun i u v => hSMB i u v)])))
                        refine Ew_of (pcₚ := 277) (fun _ => x_iload rfl (rk_o (rk_o (rk_o (lc174_6) rfl rfl) rfl rfl) rfl rfl)) ?_
                        refine Ew_of (pcₚ := 279) (fun _ => x_iload rfl (rk_o (rk_o (rk_o (lc174_5) rfl rfl) rfl rfl) rfl rfl)) ?_
                        refine w_iadd rfl ?_
                        refine Ew_of (pcₚ := 282) (fun _ => x_iload rfl (rk_o (rk_o (rk_o (lc174_7) rfl rfl) rfl rfl) rfl rfl)) ?_
                        refine w_iadd rfl ?_
                        refine Ew_of (pcₚ := 284) (fun _ => x_istore_n rfl) ?_
                        refine Ew_of (pcₚ := 287) (fun _ => x_iinc (len := 3) rfl (rk_o (rk_o (rk_o (rk_o (lc174_3) rfl rfl) rfl rfl) rfl rfl) rfl rfl)) ?_
                        refine Ew_of (pcₚ := 4) (fun _ => x_goto rfl rfl) ?_
                        exact ih4 _ (msE hm4 q_77 (q_890 b16)) _ _ _ _ _ _ _ _ ((((x4_2 + 4) + z19) + 0)) ((x4_3 + 1)) ((rk_o (rk_o (rk_o (rk_o (rk_o (lc174_0) rfl rfl) rfl rfl) rfl rfl) rfl rfl) rfl rfl).trans (congrArg (fun q : Nat => some (Value.ref q)) (((show D30 0 = D_4 0 from (eD30 0).trans (hD30 0 rfl)))).symm)) (rk_o (rk_s) rfl rfl) (rk_s) H O (SD_trans (hD_4) (SD_gluc (ι := oz_D5clsl_8) oz_D5cls_27 hD30 eD30 (by decide +kernel)) (any_subA (lₚ := [3]) (by decide +kernel))) (SD_trans (hN_4) (SD_gluc (ι := oz_D5clsl_8) oz_D5cls_27 hN30 eN30 (by decide +kernel)) (any_subA (lₚ := [3]) (by decide +kernel))) (SF_trans (SF_trans (SF_trans (hS_4) (SF_gluc (ι := oz_D5clsl_2) oz_D5cls_8 hS18 eF18 (by decide +kernel)) (any_sub (lₚ := []) (by decide +kernel))) hS_c174 (any_sub (by decide +kernel))) (SF_gluc (ι := oz_D5clsl_8) oz_D5cls_27 hS30 eF30 (by decide +kernel)) (any_sub (lₚ := [(0, 11), (0, 12), (2, 0), (2, 1), (2, 2)]) (by decide +kernel))) (SA_trans (SA_trans (SA_trans (hA_4) (SA_gluc (ι := oz_D5clsl_2) oz_D5cls_8 hA18 eA18 (by decide +kernel)) (any_subA (lₚ := []) (by decide +kernel))) hA_c174 (any_subA (by decide +kernel))) (SA_gluc (ι := oz_D5clsl_8) oz_D5cls_27 hA30 eA30 (by decide +kernel)) (any_subA (lₚ := [3]) (by decide +kernel))) (pf30_2_0) (m30_3) ((congrArg (fun q : Nat => (q : Int)) (eN30 3)).trans em30_3) (y30_2_1) (((eF30 2 1).trans ey30_2_1)) (y30_2_2) (((eF30 2 2).trans ey30_2_2)) (w30_3) ((eA30 3).trans ew30_3) (show inr ((((x4_2 + 4) + z19) + 0)) from q_3336 b24 h1 hm31 j4_0) (show inr ((x4_3 + 1)) from q_3335 b16 h1 j4_1) (show (a1) ≤ ((x4_3 + 1)) from q_161 j4_2) (show ((x4_3 + 1)) ≤ (a1) ∨ ((x4_3 + 1)) ≤ (((u0_5) + 1)) from q_3135 b16) (show (a1) ≤ ((((x4_2 + 4) + z19) + 0)) ∧ ((((x4_2 + 4) + z19) + 0)) ≤ (u0_5) from q_3334 b24 hm31 j4_4) (show 0 ≤ (y30_2_1) ∧ (y30_2_1) ≤ (m30_3) ∧ (m30_3) ≤ 65536 from pz30_2) (show (u2_1) ≤ (y30_2_1) ∧ (y30_2_1) ≤ (u0_7) from q_3333 hlim j4_6 pz30_3 pz30_4) (show (y30_2_2) = 0 from pz30_5) (show ((x4_3 + 1)) ≤ ((((x4_2 + 4) + z19) + 0)) from q_3332 hm31 j4_8) (hnx) rfl
                      · refine Ew_of (pcₚ := 263) (fun _ => x_iload rfl rk_s) ?_
                        refine Ew_of (pcₚ := 264) (fun _ => x_iconst rfl) ?_
                        refine w_icmpne (t := 272) rfl rfl (show inr (z30) from pz30_0) (show inr (1) from q_135) (fun b36 => ?_) (fun b36 => ?_)
                        · refine Ew_of (pcₚ := 274) (fun _ => x_iload rfl rk_s) ?_
                          have : IMP (((z30) : Int) = 0) (TRB (ub8 ((w1))) ((u0_5)) ((u0_7)) ((u0_8)) ((u0_9)) ((u0_10)) (sc ((w5)) 0 ((u4_1))) ((a1)) (sc ((w3)) 0 ((u2_1))) (0, 0, (y30_0_12), sc ((w30_3)) 0 ((y30_2_1)))) := fun z => absurd z (by omega)
                          have : IMP (((z30) : Int) ≠ 0) (TRB (ub8 ((w1))) ((u0_5)) ((u0_7)) ((u0_8)) ((u0_9)) ((u0_10)) (sc ((w5)) 0 ((u4_1))) ((a1)) (sc ((w3)) 0 ((u2_1))) (((z30) : Int), (y30_0_12), 0, [])) := fun _ => ITO_e j4_x (TRe_f (w := hwn) (m := (z19)) (by omega) hwn_ (by omega) (by omega) (by first | (obtain ⟨pq, Vq, hV1, hV2⟩ := hTBP; have hpq : pq = (y30_0_12) := (by rcases hV2 with ⟨x, y⟩ | ⟨x, y, z⟩; (exact y.symm); (omega)); have hV3 := hV1; rw [hpq] at hV3; exact TRf_b (by omega) (by omega) hk174 (by omega) (by omega) (by omega) hWx (by omega) hV3 (by omega) (by omega)) | exact TRf_3 (by omega) (by omega) hk174 (by omega) (by omega) (by omega) (by omega)))
                          exact w_ireturn rfl (k (z30) _ _ _ _ _ _ _ H O (cD30) (cN30) (cF30) (cA30) (pf30_2_0) (m30_3) ((congrArg (fun q : Nat => (q : Int)) (eN30 3)).trans em30_3) (y30_0_12) (((eF30 0 12).trans ey30_0_12)) (y30_2_1) (((eF30 2 1).trans ey30_2_1)) (y30_2_2) (((eF30 2 2).trans ey30_2_2)) (w30_3) ((eA30 3).trans ew30_3) (show inr (z30) from pz30_0) (show 0 ≤ (z30) ∧ (z30) ≤ 9 from q_3337 pz30_1) (show 0 ≤ (y30_2_1) ∧ (y30_2_1) ≤ (m30_3) ∧ (m30_3) ≤ 65536 from pz30_2) (show (u2_1) ≤ (y30_2_1) ∧ (y30_2_1) ≤ (u0_7) from q_3333 hlim j4_6 pz30_3 pz30_4) (show (z30) = 0 → a1 + 4 ≤ (y30_0_12) ∧ (y30_0_12) ≤ (u0_5) by omega) (show (y30_2_2) = 0 from pz30_5) (show IMP ((z30) = 0) (TRB (ub8 ((w1))) ((u0_5)) ((u0_7)) ((u0_8)) ((u0_9)) ((u0_10)) (sc ((w5)) 0 ((u4_1))) (a1) (sc ((w3)) 0 ((u2_1))) (0, 0, (y30_0_12), sc ((w30_3)) 0 ((y30_2_1)))) by assumption) (show IMP ((z30) ≠ 0) (TRB (ub8 ((w1))) ((u0_5)) ((u0_7)) ((u0_8)) ((u0_9)) ((u0_10)) (sc ((w5)) 0 ((u4_1))) (a1) (sc ((w3)) 0 ((u2_1))) ((z30), (y30_0_12), 0, [])) by assumption))
                        · refine Ew_of (pcₚ := 269) (fun _ => x_bipush (z := 9) rfl (by decide)) ?_
                          refine Ew_of (pcₚ := 274) (fun _ => x_goto rfl rfl) ?_
                          have : IMP (((9) : Int) = 0) (TRB (ub8 ((w1))) ((u0_5)) ((u0_7)) ((u0_8)) ((u0_9)) ((u0_10)) (sc ((w5)) 0 ((u4_1))) ((a1)) (sc ((w3)) 0 ((u2_1))) (0, 0, (y30_0_12), sc ((w30_3)) 0 ((y30_2_1)))) := fun z => absurd z (by omega)
                          have : IMP (((9) : Int) ≠ 0) (TRB (ub8 ((w1))) ((u0_5)) ((u0_7)) ((u0_8)) ((u0_9)) ((u0_10)) (sc ((w5)) 0 ((u4_1))) ((a1)) (sc ((w3)) 0 ((u2_1))) (((9) : Int), (y30_0_12), 0, [])) := fun _ => ITO_e j4_x (TRe_f (w := hwn) (m := (z19)) (by omega) hwn_ (by omega) (by omega) (by first | (obtain ⟨pq, Vq, hV1, hV2⟩ := hTBP; have hpq : pq = (y30_0_12) := (by rcases hV2 with ⟨x, y⟩ | ⟨x, y, z⟩; (exact y.symm); (omega)); have hV3 := hV1; rw [hpq] at hV3; exact TRf_b (by omega) (by omega) hk174 (by omega) (by omega) (by omega) hWx (by omega) hV3 (by omega) (by omega)) | exact TRf_3 (by omega) (by omega) hk174 (by omega) (by omega) (by omega) (by omega)))
                          exact w_ireturn rfl (k (9) _ _ _ _ _ _ _ H O (cD30) (cN30) (cF30) (cA30) (pf30_2_0) (m30_3) ((congrArg (fun q : Nat => (q : Int)) (eN30 3)).trans em30_3) (y30_0_12) (((eF30 0 12).trans ey30_0_12)) (y30_2_1) (((eF30 2 1).trans ey30_2_1)) (y30_2_2) (((eF30 2 2).trans ey30_2_2)) (w30_3) ((eA30 3).trans ew30_3) (show inr (9) from q_291) (show 0 ≤ (9) ∧ (9) ≤ 9 by first | exact q_3339 | omega) (show 0 ≤ (y30_2_1) ∧ (y30_2_1) ≤ (m30_3) ∧ (m30_3) ≤ 65536 from pz30_2) (show (u2_1) ≤ (y30_2_1) ∧ (y30_2_1) ≤ (u0_7) from q_3333 hlim j4_6 pz30_3 pz30_4) (show (9) = 0 → a1 + 4 ≤ (y30_0_12) ∧ (y30_0_12) ≤ (u0_5) by first | exact q_3338 h0 h1 r32 | omega) (show (y30_2_2) = 0 from pz30_5) (show IMP ((9) = 0) (TRB (ub8 ((w1))) ((u0_5)) ((u0_7)) ((u0_8)) ((u0_9)) ((u0_10)) (sc ((w5)) 0 ((u4_1))) (a1) (sc ((w3)) 0 ((u2_1))) (0, 0, (y30_0_12), sc ((w30_3)) 0 ((y30_2_1)))) by assumption) (show IMP ((9) ≠ 0) (TRB (ub8 ((w1))) ((u0_5)) ((u0_7)) ((u0_8)) ((u0_9)) ((u0_10)) (sc ((w5)) 0 ((u4_1))) (a1) (sc ((w3)) 0 ((u2_1))) ((9), (y30_0_12), 0, [])) by assumption))
                    · refine Ew_of (pcₚ := 227) (fun _ => x_aload_n rfl (rk_o (rk_o (lc174_0) rfl rfl) rfl rfl)) ?_
                      refine Ew_of (pcₚ := 229) (fun _ => x_iload rfl (rk_o (rk_o (lc174_6) rfl rfl) rfl rfl)) ?_
                      refine Ew_of (pcₚ := 231) (fun _ => x_iload rfl (rk_o (rk_o (lc174_5) rfl rfl) rfl rfl)) ?_
                      refine Ew_of (pcₚ := 233) (fun _ => x_iload rfl (rk_o (rk_s) rfl rfl)) ?_
                      have r37 : (-2147483648 : Int) ≤ F_4 0 12 ∧ F_4 0 12 ≤ 2147483647 := rngE (show (-2147483648 : Int) ≤ F_c174 0 12 ∧ F_c174 0 12 ≤ 2147483647 from H.krg 0 12 (ltn len_V228_oz_D5cls rfl)) (show F_c174 0 12 = F_4 0 12 from ((hS_c174 0 12 rfl).trans ((show F18 0 12 = F_4 0 12 from (eF18 0 12)))))
                      refine v_inv H (o := 0) rfl rfl rfl rfl rfl rfl (by rfl) (C229 (D := puc 403177984 D_4) (N := puc 403177984 N_4) (HW_subc H oz_D5cls_22 oz_D5cls_28) ((mF_c174 0 4 rfl).trans ((pf1).trans (congrArg (fun q : Nat => (q : Int)) (mD_4 1 rfl).symm))) ((mF_c174 0 6 rfl).trans ((pf2).trans (congrArg (fun q : Nat => (q : Int)) (mD_4 2 rfl).symm))) ((((hS_c174 2 0 rfl).trans ((show F18 2 0 = F_4 2 0 from (eF18 2 0))))).trans (pm4_3)) (n1) ((congrArg (fun q : Nat => (q : Int)) (mN_4 1 rfl)).trans (en1)) (m4_3) (em4_3) (F_4 0 12) (((hS_c174 0 12 rfl).trans ((show F18 0 12 = F_4 0 12 from (eF18 0 12))))) (y4_2_1) ((((hS_c174 2 1 rfl).trans ((show F18 2 1 = F_4 2 1 from (eF18 2 1)))).trans (ey4_2_1))) (y4_2_2) ((((hS_c174 2 2 rfl).trans ((show F18 2 2 = F_4 2 2 from (eF18 2 2)))).trans (ey4_2_2))) (w1) ((funext (mA_c174 1 rfl)).trans (ew1)) (w4_3) ((funext (hA_c174 3 rfl)).trans (((show A18 3 = A_4 3 from (eA18 3))).trans (ew4_3))) (show inr ((x4_2 + 4)) from q_3331 b17 h1 j4_0) (show inr (z19) from gz19) (show inr (z25) from q_3329 h5 hlim) (show 0 ≤ ((x4_2 + 4)) ∧ 0 ≤ (z19) ∧ ((x4_2 + 4)) + (z19) ≤ (n1) ∧ (n1) ≤ 65536 from q_3341 b24 h1 h2 hm31 j4_4) (show 0 ≤ (y4_2_1) ∧ (y4_2_1) ≤ (m4_3) ∧ (m4_3) ≤ 65536 from j4_5) (show (y4_2_1) ≤ (z25) ∧ (z25) ≤ 65536 from q_3340 h5 hlim j4_6) (show (y4_2_2) = 0 from j4_7) (fun z38 σ38 D38ₚ N38ₚ F38ₚ A38ₚ c38 s38 Hₚ Oₚ hD38 hN38 hS38 hA38 pm38_3 m38_3 em38_3 y38_0_12 ey38_0_12 y38_2_1 ey38_2_1 y38_2_2 ey38_2_2 w38_3 ew38_3 pz38_0 pz38_1 pz38_2 pz38_3 pz38_4 pz38_5 pz38_6 => ⟨rfl, ?_⟩))
                      refine v_backMc (c := c_4) (s := s_4) H oz_D5cls_22 oz_D5cls_28 Hₚ Oₚ hD38 oz_D5cls_23 (fun D38 N38 F38 A38 H Oₚ eD38 eN38 eF38 eA38 => ?_)
                      have O := OUT_trans O Oₚ
                      -- Tokens.unpackPlain
                      have cF38 : SF oz_D5clsl_7 F F38 := SF_trans (cF_c174) (SF_gluc (ι := oz_D5clsl_9) oz_D5cls_28 hS38 eF38 (by decide +kernel)) (any_sub (lₚ := [(0, 12), (2, 0), (2, 1), (2, 2)]) (by decide +kernel))
                      have mF38 := SFm_of cF38 oz_D5cls_26
                      have cA38 : SA oz_D5clsl_5 A A38 := SA_trans (cA_c174) (SA_gluc (ι := oz_D5clsl_9) oz_D5cls_28 hA38 eA38 (by decide +kernel)) (any_subA (lₚ := [3]) (by decide +kernel))
                      have mA38 := SAm_of cA38 oz_D5cls_16
                      have cD38 : SD oz_D5clsl_5 D D38 := SD_trans (cD_4) (SD_gluc (ι := oz_D5clsl_9) oz_D5cls_28 hD38 eD38 (by decide +kernel)) (any_subA (lₚ := [3]) (by decide +kernel))
                      have mD38 := SDm_of cD38 oz_D5cls_16
                      have cN38 : SD oz_D5clsl_5 N N38 := SD_trans (cN_4) (SD_gluc (ι := oz_D5clsl_9) oz_D5cls_28 hN38 eN38 (by decide +kernel)) (any_subA (lₚ := [3]) (by decide +kernel))
                      have mN38 := SDm_of cN38 oz_D5cls_16
                      have pf38_2_0 : F38 2 0 = (D38 3 : Int) := (eF38 2 0).trans (pm38_3.trans (congrArg (fun q : Nat => (q : Int)) (eD38 3).symm))
                      have r39 : (0 : Int) ≤ m38_3 ∧ m38_3 ≤ 1000000 := nleE (H.nle 3 (ltn len_V228_oz_D5cls rfl)) (show (N38 3 : Int) = m38_3 from (congrArg (fun q : Nat => (q : Int)) (eN38 3)).trans em38_3)
                      have r40 : (-2147483648 : Int) ≤ y38_0_12 ∧ y38_0_12 ≤ 2147483647 := rngE (show (-2147483648 : Int) ≤ F38 0 12 ∧ F38 0 12 ≤ 2147483647 from H.krg 0 12 (ltn len_V228_oz_D5cls rfl)) (show F38 0 12 = y38_0_12 from ((eF38 0 12).trans ey38_0_12))
                      have r41 : (-2147483648 : Int) ≤ y38_2_1 ∧ y38_2_1 ≤ 2147483647 := rngE (show (-2147483648 : Int) ≤ F38 2 1 ∧ F38 2 1 ≤ 2147483647 from H.krg 2 1 (ltn len_V228_oz_D5cls rfl)) (show F38 2 1 = y38_2_1 from ((eF38 2 1).trans ey38_2_1))
                      have r42 : (0 : Int) ≤ y38_2_2 ∧ y38_2_2 ≤ 1 := rngE (show (0 : Int) ≤ F38 2 2 ∧ F38 2 2 ≤ 1 from H.krg 2 2 (ltn len_V228_oz_D5cls rfl)) (show F38 2 2 = y38_2_2 from ((eF38 2 2).trans ey38_2_2))
                      have hp4 := pz38_4
                      have hp5 := pz38_5
                      have hp6 := pz38_6
                      refine Ew_of (pcₚ := 254) (fun _ => x_goto rfl rfl) ?_
                      try have hTBP := pz30_6
                      try have hSMB := pz30_8
                      try rw [← hqrb, ← hqcn] at hSMB
                      try rw [← hqrb, ← hqcn] at hWx
                      try rw [← hqrb, ← hqcn] at hCX
                      try rw [← hqrb, ← hqcn] at hTBP
                      refine Ew_of (pcₚ := 256) (fun _ => x_istore rfl) ?_
                      refine Ew_of (pcₚ := 258) (fun _ => x_iload rfl rk_s) ?_
                      refine w_ifeq (t := 275) rfl rfl (show inr (z38) from pz38_0) (fun b43 => ?_) (fun b43 => ?_)
                      · have hnx : ITO (TRs (ub8 ((w1))) ((u0_5)) ((u0_7)) ((u0_8)) ((u0_9)) ((u0_10)) (sc ((w5)) 0 ((u4_1)))) (TRe (ub8 ((w1))) ((u0_5)) ((u0_7)) ((u0_8)) ((u0_9)) ((u0_10)) (sc ((w5)) 0 ((u4_1)))) ((a1), sc ((w3)) 0 ((u2_1))) (((x4_2 + 4)) + (z19) + (0), sc ((w38_3)) 0 ((y38_2_1))) := by first | (have hp6_ := hp6; exact ITO_s j4_x (TRs_p (w := hwn) (m := (z19)) (by omega) hwn_ (by omega) (by omega) (by omega) (by omega) (by omega) hk174 (by omega) (by omega) (a := ((x4_2 + 4))) (b := ((x4_2 + 4)) + (z19)) (by omega) (by omega) (by rw [hCX]; try rw [hqrb, hqcn]; exact hp6 (by omega)))) | (obtain ⟨pq, Vq, hV1, hV2⟩ := hTBP; have hV0 := hV1; rw [show (z30 : Int) = 0 by omega] at hV0; exact ITO_s j4_x (TRs_b (w := hwn) (m := (z19)) (pl := pq) (X := sc ((w38_3)) (qcn) ((y38_2_1))) (by omega) hwn_ (by omega) (by omega) (by omega) (by omega) (by omega) hk174 (by omega) (by omega) (by omega) hWx (by omega) hV0 (by rcases hV2 with ⟨x, y⟩ | ⟨x, y, z⟩; (omega); ((rw [← z, List.append_assoc]; first | (rw [sc_nil (f := qrb) (a := qcn) (b := qcn) (Int.le_refl _), List.nil_append]; done) | rw [sc_cat (f := (w38_3)) (b := qcn) (by omega) (by omega), sc_same (g := qrb) (fun i u v => hSMB i (by omega) v)]))) (by rw [hCX, sc_cat (f := (w38_3)) (b := qcn) (by omega) (by omega), sc_same (g := qrb) (fun i u v => hSMB i u v)])))
                        refine Ew_of (pcₚ := 277) (fun _ => x_iload rfl (rk_o (rk_o (rk_o (lc174_6) rfl rfl) rfl rfl) rfl rfl)) ?_
                        refine Ew_of (pcₚ := 279) (fun _ => x_iload rfl (rk_o (rk_o (rk_o (lc174_5) rfl rfl) rfl rfl) rfl rfl)) ?_
                        refine w_iadd rfl ?_
                        refine Ew_of (pcₚ := 282) (fun _ => x_iload rfl (rk_o (rk_o (rk_o (lc174_7) rfl rfl) rfl rfl) rfl rfl)) ?_
                        refine w_iadd rfl ?_
                        refine Ew_of (pcₚ := 284) (fun _ => x_istore_n rfl) ?_
                        refine Ew_of (pcₚ := 287) (fun _ => x_iinc (len := 3) rfl (rk_o (rk_o (rk_o (rk_o (lc174_3) rfl rfl) rfl rfl) rfl rfl) rfl rfl)) ?_
                        refine Ew_of (pcₚ := 4) (fun _ => x_goto rfl rfl) ?_
                        exact ih4 _ (msE hm4 q_77 (q_890 b16)) _ _ _ _ _ _ _ _ ((((x4_2 + 4) + z19) + 0)) ((x4_3 + 1)) ((rk_o (rk_o (rk_o (rk_o (rk_o (lc174_0) rfl rfl) rfl rfl) rfl rfl) rfl rfl) rfl rfl).trans (congrArg (fun q : Nat => some (Value.ref q)) (((show D38 0 = D_4 0 from (eD38 0).trans (hD38 0 rfl)))).symm)) (rk_o (rk_s) rfl rfl) (rk_s) H O (SD_trans (hD_4) (SD_gluc (ι := oz_D5clsl_9) oz_D5cls_28 hD38 eD38 (by decide +kernel)) (any_subA (lₚ := [3]) (by decide +kernel))) (SD_trans (hN_4) (SD_gluc (ι := oz_D5clsl_9) oz_D5cls_28 hN38 eN38 (by decide +kernel)) (any_subA (lₚ := [3]) (by decide +kernel))) (SF_trans (SF_trans (SF_trans (hS_4) (SF_gluc (ι := oz_D5clsl_2) oz_D5cls_8 hS18 eF18 (by decide +kernel)) (any_sub (lₚ := []) (by decide +kernel))) hS_c174 (any_sub (by decide +kernel))) (SF_gluc (ι := oz_D5clsl_9) oz_D5cls_28 hS38 eF38 (by decide +kernel)) (any_sub (lₚ := [(0, 12), (2, 0), (2, 1), (2, 2)]) (by decide +kernel))) (SA_trans (SA_trans (SA_trans (hA_4) (SA_gluc (ι := oz_D5clsl_2) oz_D5cls_8 hA18 eA18 (by decide +kernel)) (any_subA (lₚ := []) (by decide +kernel))) hA_c174 (any_subA (by decide +kernel))) (SA_gluc (ι := oz_D5clsl_9) oz_D5cls_28 hA38 eA38 (by decide +kernel)) (any_subA (lₚ := [3]) (by decide +kernel))) (pf38_2_0) (m38_3) ((congrArg (fun q : Nat => (q : Int)) (eN38 3)).trans em38_3) (y38_2_1) (((eF38 2 1).trans ey38_2_1)) (y38_2_2) (((eF38 2 2).trans ey38_2_2)) (w38_3) ((eA38 3).trans ew38_3) (show inr ((((x4_2 + 4) + z19) + 0)) from q_3336 b24 h1 hm31 j4_0) (show inr ((x4_3 + 1)) from q_3335 b16 h1 j4_1) (show (a1) ≤ ((x4_3 + 1)) from q_161 j4_2) (show ((x4_3 + 1)) ≤ (a1) ∨ ((x4_3 + 1)) ≤ (((u0_5) + 1)) from q_3135 b16) (show (a1) ≤ ((((x4_2 + 4) + z19) + 0)) ∧ ((((x4_2 + 4) + z19) + 0)) ≤ (u0_5) from q_3334 b24 hm31 j4_4) (show 0 ≤ (y38_2_1) ∧ (y38_2_1) ≤ (m38_3) ∧ (m38_3) ≤ 65536 from pz38_2) (show (u2_1) ≤ (y38_2_1) ∧ (y38_2_1) ≤ (u0_7) from q_3342 hlim j4_6 pz38_3) (show (y38_2_2) = 0 from pz38_4) (show ((x4_3 + 1)) ≤ ((((x4_2 + 4) + z19) + 0)) from q_3332 hm31 j4_8) (hnx) rfl
                      · refine Ew_of (pcₚ := 263) (fun _ => x_iload rfl rk_s) ?_
                        refine Ew_of (pcₚ := 264) (fun _ => x_iconst rfl) ?_
                        refine w_icmpne (t := 272) rfl rfl (show inr (z38) from pz38_0) (show inr (1) from q_135) (fun b44 => ?_) (fun b44 => ?_)
                        · refine Ew_of (pcₚ := 274) (fun _ => x_iload rfl rk_s) ?_
                          have : IMP (((z38) : Int) = 0) (TRB (ub8 ((w1))) ((u0_5)) ((u0_7)) ((u0_8)) ((u0_9)) ((u0_10)) (sc ((w5)) 0 ((u4_1))) ((a1)) (sc ((w3)) 0 ((u2_1))) (0, 0, (y38_0_12), sc ((w38_3)) 0 ((y38_2_1)))) := fun z => absurd z (by omega)
                          have : IMP (((z38) : Int) ≠ 0) (TRB (ub8 ((w1))) ((u0_5)) ((u0_7)) ((u0_8)) ((u0_9)) ((u0_10)) (sc ((w5)) 0 ((u4_1))) ((a1)) (sc ((w3)) 0 ((u2_1))) (((z38) : Int), (y38_0_12), 0, [])) := fun _ => ITO_e j4_x (TRe_f (w := hwn) (m := (z19)) (by omega) hwn_ (by omega) (by omega) (by first | (obtain ⟨pq, Vq, hV1, hV2⟩ := hTBP; have hpq : pq = (y38_0_12) := (by rcases hV2 with ⟨x, y⟩ | ⟨x, y, z⟩; (exact y.symm); (omega)); have hV3 := hV1; rw [hpq] at hV3; exact TRf_b (by omega) (by omega) hk174 (by omega) (by omega) (by omega) hWx (by omega) hV3 (by omega) (by omega)) | exact TRf_3 (by omega) (by omega) hk174 (by omega) (by omega) (by omega) (by omega)))
                          exact w_ireturn rfl (k (z38) _ _ _ _ _ _ _ H O (cD38) (cN38) (cF38) (cA38) (pf38_2_0) (m38_3) ((congrArg (fun q : Nat => (q : Int)) (eN38 3)).trans em38_3) (y38_0_12) (((eF38 0 12).trans ey38_0_12)) (y38_2_1) (((eF38 2 1).trans ey38_2_1)) (y38_2_2) (((eF38 2 2).trans ey38_2_2)) (w38_3) ((eA38 3).trans ew38_3) (show inr (z38) from pz38_0) (show 0 ≤ (z38) ∧ (z38) ≤ 9 from q_3337 pz38_1) (show 0 ≤ (y38_2_1) ∧ (y38_2_1) ≤ (m38_3) ∧ (m38_3) ≤ 65536 from pz38_2) (show (u2_1) ≤ (y38_2_1) ∧ (y38_2_1) ≤ (u0_7) from q_3342 hlim j4_6 pz38_3) (show (z38) = 0 → a1 + 4 ≤ (y38_0_12) ∧ (y38_0_12) ≤ (u0_5) by omega) (show (y38_2_2) = 0 from pz38_4) (show IMP ((z38) = 0) (TRB (ub8 ((w1))) ((u0_5)) ((u0_7)) ((u0_8)) ((u0_9)) ((u0_10)) (sc ((w5)) 0 ((u4_1))) (a1) (sc ((w3)) 0 ((u2_1))) (0, 0, (y38_0_12), sc ((w38_3)) 0 ((y38_2_1)))) by assumption) (show IMP ((z38) ≠ 0) (TRB (ub8 ((w1))) ((u0_5)) ((u0_7)) ((u0_8)) ((u0_9)) ((u0_10)) (sc ((w5)) 0 ((u4_1))) (a1) (sc ((w3)) 0 ((u2_1))) ((z38), (y38_0_12), 0, [])) by assumption))
                        · refine Ew_of (pcₚ := 269) (fun _ => x_bipush (z := 9) rfl (by decide)) ?_
                          refine Ew_of (pcₚ := 274) (fun _ => x_goto rfl rfl) ?_
                          have : IMP (((9) : Int) = 0) (TRB (ub8 ((w1))) ((u0_5)) ((u0_7)) ((u0_8)) ((u0_9)) ((u0_10)) (sc ((w5)) 0 ((u4_1))) ((a1)) (sc ((w3)) 0 ((u2_1))) (0, 0, (y38_0_12), sc ((w38_3)) 0 ((y38_2_1)))) := fun z => absurd z (by omega)
                          have : IMP (((9) : Int) ≠ 0) (TRB (ub8 ((w1))) ((u0_5)) ((u0_7)) ((u0_8)) ((u0_9)) ((u0_10)) (sc ((w5)) 0 ((u4_1))) ((a1)) (sc ((w3)) 0 ((u2_1))) (((9) : Int), (y38_0_12), 0, [])) := fun _ => ITO_e j4_x (TRe_f (w := hwn) (m := (z19)) (by omega) hwn_ (by omega) (by omega) (by first | (obtain ⟨pq, Vq, hV1, hV2⟩ := hTBP; have hpq : pq = (y38_0_12) := (by rcases hV2 with ⟨x, y⟩ | ⟨x, y, z⟩; (exact y.symm); (omega)); have hV3 := hV1; rw [hpq] at hV3; exact TRf_b (by omega) (by omega) hk174 (by omega) (by omega) (by omega) hWx (by omega) hV3 (by omega) (by omega)) | exact TRf_3 (by omega) (by omega) hk174 (by omega) (by omega) (by omega) (by omega)))
                          exact w_ireturn rfl (k (9) _ _ _ _ _ _ _ H O (cD38) (cN38) (cF38) (cA38) (pf38_2_0) (m38_3) ((congrArg (fun q : Nat => (q : Int)) (eN38 3)).trans em38_3) (y38_0_12) (((eF38 0 12).trans ey38_0_12)) (y38_2_1) (((eF38 2 1).trans ey38_2_1)) (y38_2_2) (((eF38 2 2).trans ey38_2_2)) (w38_3) ((eA38 3).trans ew38_3) (show inr (9) from q_291) (show 0 ≤ (9) ∧ (9) ≤ 9 by first | exact q_3339 | omega) (show 0 ≤ (y38_2_1) ∧ (y38_2_1) ≤ (m38_3) ∧ (m38_3) ≤ 65536 from pz38_2) (show (u2_1) ≤ (y38_2_1) ∧ (y38_2_1) ≤ (u0_7) from q_3342 hlim j4_6 pz38_3) (show (9) = 0 → a1 + 4 ≤ (y38_0_12) ∧ (y38_0_12) ≤ (u0_5) by first | exact q_3338 h0 h1 r40 | omega) (show (y38_2_2) = 0 from pz38_4) (show IMP ((9) = 0) (TRB (ub8 ((w1))) ((u0_5)) ((u0_7)) ((u0_8)) ((u0_9)) ((u0_10)) (sc ((w5)) 0 ((u4_1))) (a1) (sc ((w3)) 0 ((u2_1))) (0, 0, (y38_0_12), sc ((w38_3)) 0 ((y38_2_1)))) by assumption) (show IMP ((9) ≠ 0) (TRB (ub8 ((w1))) ((u0_5)) ((u0_7)) ((u0_8)) ((u0_9)) ((u0_10)) (sc ((w5)) 0 ((u4_1))) (a1) (sc ((w3)) 0 ((u2_1))) ((9), (y38_0_12), 0, [])) by assumption))
                  · refine Ew_of (pcₚ := 206) (fun _ => x_aload_n rfl (rk_o (lc174_0) rfl rfl)) ?_
                    refine v_g H (o := 0) (v := .ref (D_4 2)) rfl rfl rfl rfl rfl (vrf ((mF_c174 0 6 rfl).trans ((pf2).trans (congrArg (fun q : Nat => (q : Int)) (mD_4 2 rfl).symm)))) ?_
                    refine v_g H (o := 2) (v := I (y4_2_1)) rfl rfl rfl rfl rfl (congrArg (fun z : Int => I z) ((((hS_c174 2 1 rfl).trans ((show F18 2 1 = F_4 2 1 from (eF18 2 1)))).trans (ey4_2_1)) : F_c174 2 1 = y4_2_1)) ?_
                    refine Ew_of (pcₚ := 219) (fun _ => x_goto rfl rfl) ?_
                    refine Ew_of (pcₚ := 221) (fun _ => x_istore rfl) ?_
                    have hb9 : (y4_2_1) = (u0_10) ∧ andI ((u0_8)) 32 = 0 ∨ (y4_2_1) = (y4_2_1) ∧ andI ((u0_8)) 32 ≠ 0 := by omega
                    have hWx : sc ((w5)) 0 ((u4_1)) ++ sc ((w4_3)) ((y4_2_1)) ((y4_2_1)) = TRh ((u0_8)) (sc ((w5)) 0 ((u4_1))) CX ((u0_10)) := by rw [hCX]; exact TRh_v rfl (by omega) hb9
                    obtain ⟨qcn, hqcn⟩ : ∃ q : Int, q = (y4_2_1) := ⟨_, rfl⟩
                    obtain ⟨qrb, hqrb⟩ : ∃ q : Int → Int, q = (w4_3) := ⟨_, rfl⟩
                    refine Ew_of (pcₚ := 223) (fun _ => x_iload rfl (rk_o (rk_o (lc174_4) rfl rfl) rfl rfl)) ?_
                    refine w_ifge (t := 239) rfl rfl (show inr (z18) from pz18_0) (fun b45 => ?_) (fun b45 => ?_)
                    · refine Ew_of (pcₚ := 240) (fun _ => x_aload_n rfl (rk_o (rk_o (lc174_0) rfl rfl) rfl rfl)) ?_
                      refine Ew_of (pcₚ := 242) (fun _ => x_iload rfl (rk_o (rk_o (lc174_6) rfl rfl) rfl rfl)) ?_
                      refine Ew_of (pcₚ := 244) (fun _ => x_iload rfl (rk_o (rk_o (lc174_6) rfl rfl) rfl rfl)) ?_
                      refine Ew_of (pcₚ := 246) (fun _ => x_iload rfl (rk_o (rk_o (lc174_5) rfl rfl) rfl rfl)) ?_
                      refine w_iadd rfl ?_
                      refine Ew_of (pcₚ := 249) (fun _ => x_iload rfl rk_s) ?_
                      refine Ew_of (pcₚ := 251) (fun _ => x_iload rfl (rk_o (rk_s) rfl rfl)) ?_
                      have r46 : (-2147483648 : Int) ≤ F_4 0 12 ∧ F_4 0 12 ≤ 2147483647 := rngE (show (-2147483648 : Int) ≤ F_c174 0 12 ∧ F_c174 0 12 ≤ 2147483647 from H.krg 0 12 (ltn len_V228_oz_D5cls rfl)) (show F_c174 0 12 = F_4 0 12 from ((hS_c174 0 12 rfl).trans ((show F18 0 12 = F_4 0 12 from (eF18 0 12)))))
                      refine v_inv H (o := 0) rfl rfl rfl rfl rfl rfl (by rfl) (C224 (D := puc 176197141529088 D_4) (N := puc 176197141529088 N_4) (HW_subc H oz_D5cls_20 oz_D5cls_27) ((mF_c174 0 4 rfl).trans ((pf1).trans (congrArg (fun q : Nat => (q : Int)) (mD_4 1 rfl).symm))) ((mF_c174 0 6 rfl).trans ((pf2).trans (congrArg (fun q : Nat => (q : Int)) (mD_4 2 rfl).symm))) ((((hS_c174 2 0 rfl).trans ((show F18 2 0 = F_4 2 0 from (eF18 2 0))))).trans (pm4_3)) ((mF_c174 0 1 rfl).trans ((pf4).trans (congrArg (fun q : Nat => (q : Int)) (mD_4 4 rfl).symm))) ((mF_c174 4 0 rfl).trans ((pf5).trans (congrArg (fun q : Nat => (q : Int)) (mD_4 5 rfl).symm))) (n1) ((congrArg (fun q : Nat => (q : Int)) (mN_4 1 rfl)).trans (en1)) (m4_3) (em4_3) (n5) ((congrArg (fun q : Nat => (q : Int)) (mN_4 5 rfl)).trans (en5)) (F_4 0 12) (((hS_c174 0 12 rfl).trans ((show F18 0 12 = F_4 0 12 from (eF18 0 12))))) (y4_2_1) ((((hS_c174 2 1 rfl).trans ((show F18 2 1 = F_4 2 1 from (eF18 2 1)))).trans (ey4_2_1))) (y4_2_2) ((((hS_c174 2 2 rfl).trans ((show F18 2 2 = F_4 2 2 from (eF18 2 2)))).trans (ey4_2_2))) (u4_1) (((mF_c174 4 1 rfl).trans (eu4_1))) (w1) ((funext (mA_c174 1 rfl)).trans (ew1)) (w4_3) ((funext (hA_c174 3 rfl)).trans (((show A18 3 = A_4 3 from (eA18 3))).trans (ew4_3))) (w5) ((funext (mA_c174 5 rfl)).trans (ew5)) (show inr ((x4_2 + 4)) from q_3331 b17 h1 j4_0) (show inr (((x4_2 + 4) + z19)) from q_3330 b24 h1 hm31 j4_0) (show inr (y4_2_1) from q_38 j4_5) (show inr (z25) from q_3329 h5 hlim) (show 0 ≤ ((x4_2 + 4)) ∧ ((x4_2 + 4)) ≤ (((x4_2 + 4) + z19)) ∧ (((x4_2 + 4) + z19)) ≤ (n1) ∧ (n1) ≤ 65536 from q_3328 b24 h1 h2 hm31 j4_4) (show 0 ≤ (y4_2_1) ∧ (y4_2_1) ≤ (m4_3) ∧ (m4_3) ≤ 65536 from j4_5) (show 0 ≤ (u4_1) ∧ (u4_1) ≤ (n5) ∧ (n5) ≤ 65536 from h4) (show 0 ≤ (y4_2_1) ∧ (y4_2_1) ≤ (y4_2_1) from q_3343 j4_5) (show 0 ≤ (z25) ∧ (z25) ≤ 65536 from q_3326 h5 hlim) (show (y4_2_2) = 0 ∧ (y4_2_1) ≤ (z25) from q_3325 hlim j4_6 j4_7) (fun z47 σ47 D47ₚ N47ₚ F47ₚ A47ₚ c47 s47 Hₚ Oₚ hD47 hN47 hS47 hA47 pm47_3 m47_3 em47_3 y47_0_12 ey47_0_12 y47_2_1 ey47_2_1 y47_2_2 ey47_2_2 w47_3 ew47_3 pz47_0 pz47_1 pz47_2 pz47_3 pz47_4 pz47_5 pz47_6 pz47_7 pz47_8 => ⟨rfl, ?_⟩))
                      refine v_backMc (c := c_4) (s := s_4) H oz_D5cls_20 oz_D5cls_27 Hₚ Oₚ hD47 oz_D5cls_21 (fun D47 N47 F47 A47 H Oₚ eD47 eN47 eF47 eA47 => ?_)
                      have O := OUT_trans O Oₚ
                      -- Tokens.unpackBlock
                      have cF47 : SF oz_D5clsl_7 F F47 := SF_trans (cF_c174) (SF_gluc (ι := oz_D5clsl_8) oz_D5cls_27 hS47 eF47 (by decide +kernel)) (any_sub (lₚ := [(0, 11), (0, 12), (2, 0), (2, 1), (2, 2)]) (by decide +kernel))
                      have mF47 := SFm_of cF47 oz_D5cls_26
                      have cA47 : SA oz_D5clsl_5 A A47 := SA_trans (cA_c174) (SA_gluc (ι := oz_D5clsl_8) oz_D5cls_27 hA47 eA47 (by decide +kernel)) (any_subA (lₚ := [3]) (by decide +kernel))
                      have mA47 := SAm_of cA47 oz_D5cls_16
                      have cD47 : SD oz_D5clsl_5 D D47 := SD_trans (cD_4) (SD_gluc (ι := oz_D5clsl_8) oz_D5cls_27 hD47 eD47 (by decide +kernel)) (any_subA (lₚ := [3]) (by decide +kernel))
                      have mD47 := SDm_of cD47 oz_D5cls_16
                      have cN47 : SD oz_D5clsl_5 N N47 := SD_trans (cN_4) (SD_gluc (ι := oz_D5clsl_8) oz_D5cls_27 hN47 eN47 (by decide +kernel)) (any_subA (lₚ := [3]) (by decide +kernel))
                      have mN47 := SDm_of cN47 oz_D5cls_16
                      have pf47_2_0 : F47 2 0 = (D47 3 : Int) := (eF47 2 0).trans (pm47_3.trans (congrArg (fun q : Nat => (q : Int)) (eD47 3).symm))
                      have r48 : (0 : Int) ≤ m47_3 ∧ m47_3 ≤ 1000000 := nleE (H.nle 3 (ltn len_V228_oz_D5cls rfl)) (show (N47 3 : Int) = m47_3 from (congrArg (fun q : Nat => (q : Int)) (eN47 3)).trans em47_3)
                      have r49 : (-2147483648 : Int) ≤ y47_0_12 ∧ y47_0_12 ≤ 2147483647 := rngE (show (-2147483648 : Int) ≤ F47 0 12 ∧ F47 0 12 ≤ 2147483647 from H.krg 0 12 (ltn len_V228_oz_D5cls rfl)) (show F47 0 12 = y47_0_12 from ((eF47 0 12).trans ey47_0_12))
                      have r50 : (-2147483648 : Int) ≤ y47_2_1 ∧ y47_2_1 ≤ 2147483647 := rngE (show (-2147483648 : Int) ≤ F47 2 1 ∧ F47 2 1 ≤ 2147483647 from H.krg 2 1 (ltn len_V228_oz_D5cls rfl)) (show F47 2 1 = y47_2_1 from ((eF47 2 1).trans ey47_2_1))
                      have r51 : (0 : Int) ≤ y47_2_2 ∧ y47_2_2 ≤ 1 := rngE (show (0 : Int) ≤ F47 2 2 ∧ F47 2 2 ≤ 1 from H.krg 2 2 (ltn len_V228_oz_D5cls rfl)) (show F47 2 2 = y47_2_2 from ((eF47 2 2).trans ey47_2_2))
                      try have hTBP := pz47_6
                      try have hSMB := pz47_8
                      try rw [← hqrb, ← hqcn] at hSMB
                      try rw [← hqrb, ← hqcn] at hWx
                      try rw [← hqrb, ← hqcn] at hCX
                      try rw [← hqrb, ← hqcn] at hTBP
                      refine Ew_of (pcₚ := 256) (fun _ => x_istore rfl) ?_
                      refine Ew_of (pcₚ := 258) (fun _ => x_iload rfl rk_s) ?_
                      refine w_ifeq (t := 275) rfl rfl (show inr (z47) from pz47_0) (fun b52 => ?_) (fun b52 => ?_)
                      · have hnx : ITO (TRs (ub8 ((w1))) ((u0_5)) ((u0_7)) ((u0_8)) ((u0_9)) ((u0_10)) (sc ((w5)) 0 ((u4_1)))) (TRe (ub8 ((w1))) ((u0_5)) ((u0_7)) ((u0_8)) ((u0_9)) ((u0_10)) (sc ((w5)) 0 ((u4_1)))) ((a1), sc ((w3)) 0 ((u2_1))) (((x4_2 + 4)) + (z19) + (0), sc ((w47_3)) 0 ((y47_2_1))) := by first | (have hp6_ := hp6; exact ITO_s j4_x (TRs_p (w := hwn) (m := (z19)) (by omega) hwn_ (by omega) (by omega) (by omega) (by omega) (by omega) hk174 (by omega) (by omega) (a := ((x4_2 + 4))) (b := ((x4_2 + 4)) + (z19)) (by omega) (by omega) (by rw [hCX]; try rw [hqrb, hqcn]; exact hp6 (by omega)))) | (obtain ⟨pq, Vq, hV1, hV2⟩ := hTBP; have hV0 := hV1; rw [show (z47 : Int) = 0 by omega] at hV0; exact ITO_s j4_x (TRs_b (w := hwn) (m := (z19)) (pl := pq) (X := sc ((w47_3)) (qcn) ((y47_2_1))) (by omega) hwn_ (by omega) (by omega) (by omega) (by omega) (by omega) hk174 (by omega) (by omega) (by omega) hWx (by omega) hV0 (by rcases hV2 with ⟨x, y⟩ | ⟨x, y, z⟩; (omega); ((rw [← z, List.append_assoc]; first | (rw [sc_nil (f := qrb) (a := qcn) (b := qcn) (Int.le_refl _), List.nil_append]; done) | rw [sc_cat (f := (w47_3)) (b := qcn) (by omega) (by omega), sc_same (g := qrb) (fun i u v => hSMB i (by omega) v)]))) (by rw [hCX, sc_cat (f := (w47_3)) (b := qcn) (by omega) (by omega), sc_same (g := qrb) (fun i u v => hSMB i u v)])))
                        refine Ew_of (pcₚ := 277) (fun _ => x_iload rfl (rk_o (rk_o (rk_o (lc174_6) rfl rfl) rfl rfl) rfl rfl)) ?_
                        refine Ew_of (pcₚ := 279) (fun _ => x_iload rfl (rk_o (rk_o (rk_o (lc174_5) rfl rfl) rfl rfl) rfl rfl)) ?_
                        refine w_iadd rfl ?_
                        refine Ew_of (pcₚ := 282) (fun _ => x_iload rfl (rk_o (rk_o (rk_o (lc174_7) rfl rfl) rfl rfl) rfl rfl)) ?_
                        refine w_iadd rfl ?_
                        refine Ew_of (pcₚ := 284) (fun _ => x_istore_n rfl) ?_
                        refine Ew_of (pcₚ := 287) (fun _ => x_iinc (len := 3) rfl (rk_o (rk_o (rk_o (rk_o (lc174_3) rfl rfl) rfl rfl) rfl rfl) rfl rfl)) ?_
                        refine Ew_of (pcₚ := 4) (fun _ => x_goto rfl rfl) ?_
                        exact ih4 _ (msE hm4 q_77 (q_890 b16)) _ _ _ _ _ _ _ _ ((((x4_2 + 4) + z19) + 0)) ((x4_3 + 1)) ((rk_o (rk_o (rk_o (rk_o (rk_o (lc174_0) rfl rfl) rfl rfl) rfl rfl) rfl rfl) rfl rfl).trans (congrArg (fun q : Nat => some (Value.ref q)) (((show D47 0 = D_4 0 from (eD47 0).trans (hD47 0 rfl)))).symm)) (rk_o (rk_s) rfl rfl) (rk_s) H O (SD_trans (hD_4) (SD_gluc (ι := oz_D5clsl_8) oz_D5cls_27 hD47 eD47 (by decide +kernel)) (any_subA (lₚ := [3]) (by decide +kernel))) (SD_trans (hN_4) (SD_gluc (ι := oz_D5clsl_8) oz_D5cls_27 hN47 eN47 (by decide +kernel)) (any_subA (lₚ := [3]) (by decide +kernel))) (SF_trans (SF_trans (SF_trans (hS_4) (SF_gluc (ι := oz_D5clsl_2) oz_D5cls_8 hS18 eF18 (by decide +kernel)) (any_sub (lₚ := []) (by decide +kernel))) hS_c174 (any_sub (by decide +kernel))) (SF_gluc (ι := oz_D5clsl_8) oz_D5cls_27 hS47 eF47 (by decide +kernel)) (any_sub (lₚ := [(0, 11), (0, 12), (2, 0), (2, 1), (2, 2)]) (by decide +kernel))) (SA_trans (SA_trans (SA_trans (hA_4) (SA_gluc (ι := oz_D5clsl_2) oz_D5cls_8 hA18 eA18 (by decide +kernel)) (any_subA (lₚ := []) (by decide +kernel))) hA_c174 (any_subA (by decide +kernel))) (SA_gluc (ι := oz_D5clsl_8) oz_D5cls_27 hA47 eA47 (by decide +kernel)) (any_subA (lₚ := [3]) (by decide +kernel))) (pf47_2_0) (m47_3) ((congrArg (fun q : Nat => (q : Int)) (eN47 3)).trans em47_3) (y47_2_1) (((eF47 2 1).trans ey47_2_1)) (y47_2_2) (((eF47 2 2).trans ey47_2_2)) (w47_3) ((eA47 3).trans ew47_3) (show inr ((((x4_2 + 4) + z19) + 0)) from q_3336 b24 h1 hm31 j4_0) (show inr ((x4_3 + 1)) from q_3335 b16 h1 j4_1) (show (a1) ≤ ((x4_3 + 1)) from q_161 j4_2) (show ((x4_3 + 1)) ≤ (a1) ∨ ((x4_3 + 1)) ≤ (((u0_5) + 1)) from q_3135 b16) (show (a1) ≤ ((((x4_2 + 4) + z19) + 0)) ∧ ((((x4_2 + 4) + z19) + 0)) ≤ (u0_5) from q_3334 b24 hm31 j4_4) (show 0 ≤ (y47_2_1) ∧ (y47_2_1) ≤ (m47_3) ∧ (m47_3) ≤ 65536 from pz47_2) (show (u2_1) ≤ (y47_2_1) ∧ (y47_2_1) ≤ (u0_7) from q_3333 hlim j4_6 pz47_3 pz47_4) (show (y47_2_2) = 0 from pz47_5) (show ((x4_3 + 1)) ≤ ((((x4_2 + 4) + z19) + 0)) from q_3332 hm31 j4_8) (hnx) rfl
                      · refine Ew_of (pcₚ := 263) (fun _ => x_iload rfl rk_s) ?_
                        refine Ew_of (pcₚ := 264) (fun _ => x_iconst rfl) ?_
                        refine w_icmpne (t := 272) rfl rfl (show inr (z47) from pz47_0) (show inr (1) from q_135) (fun b53 => ?_) (fun b53 => ?_)
                        · refine Ew_of (pcₚ := 274) (fun _ => x_iload rfl rk_s) ?_
                          have : IMP (((z47) : Int) = 0) (TRB (ub8 ((w1))) ((u0_5)) ((u0_7)) ((u0_8)) ((u0_9)) ((u0_10)) (sc ((w5)) 0 ((u4_1))) ((a1)) (sc ((w3)) 0 ((u2_1))) (0, 0, (y47_0_12), sc ((w47_3)) 0 ((y47_2_1)))) := fun z => absurd z (by omega)
                          have : IMP (((z47) : Int) ≠ 0) (TRB (ub8 ((w1))) ((u0_5)) ((u0_7)) ((u0_8)) ((u0_9)) ((u0_10)) (sc ((w5)) 0 ((u4_1))) ((a1)) (sc ((w3)) 0 ((u2_1))) (((z47) : Int), (y47_0_12), 0, [])) := fun _ => ITO_e j4_x (TRe_f (w := hwn) (m := (z19)) (by omega) hwn_ (by omega) (by omega) (by first | (obtain ⟨pq, Vq, hV1, hV2⟩ := hTBP; have hpq : pq = (y47_0_12) := (by rcases hV2 with ⟨x, y⟩ | ⟨x, y, z⟩; (exact y.symm); (omega)); have hV3 := hV1; rw [hpq] at hV3; exact TRf_b (by omega) (by omega) hk174 (by omega) (by omega) (by omega) hWx (by omega) hV3 (by omega) (by omega)) | exact TRf_3 (by omega) (by omega) hk174 (by omega) (by omega) (by omega) (by omega)))
                          exact w_ireturn rfl (k (z47) _ _ _ _ _ _ _ H O (cD47) (cN47) (cF47) (cA47) (pf47_2_0) (m47_3) ((congrArg (fun q : Nat => (q : Int)) (eN47 3)).trans em47_3) (y47_0_12) (((eF47 0 12).trans ey47_0_12)) (y47_2_1) (((eF47 2 1).trans ey47_2_1)) (y47_2_2) (((eF47 2 2).trans ey47_2_2)) (w47_3) ((eA47 3).trans ew47_3) (show inr (z47) from pz47_0) (show 0 ≤ (z47) ∧ (z47) ≤ 9 from q_3337 pz47_1) (show 0 ≤ (y47_2_1) ∧ (y47_2_1) ≤ (m47_3) ∧ (m47_3) ≤ 65536 from pz47_2) (show (u2_1) ≤ (y47_2_1) ∧ (y47_2_1) ≤ (u0_7) from q_3333 hlim j4_6 pz47_3 pz47_4) (show (z47) = 0 → a1 + 4 ≤ (y47_0_12) ∧ (y47_0_12) ≤ (u0_5) by omega) (show (y47_2_2) = 0 from pz47_5) (show IMP ((z47) = 0) (TRB (ub8 ((w1))) ((u0_5)) ((u0_7)) ((u0_8)) ((u0_9)) ((u0_10)) (sc ((w5)) 0 ((u4_1))) (a1) (sc ((w3)) 0 ((u2_1))) (0, 0, (y47_0_12), sc ((w47_3)) 0 ((y47_2_1)))) by assumption) (show IMP ((z47) ≠ 0) (TRB (ub8 ((w1))) ((u0_5)) ((u0_7)) ((u0_8)) ((u0_9)) ((u0_10)) (sc ((w5)) 0 ((u4_1))) (a1) (sc ((w3)) 0 ((u2_1))) ((z47), (y47_0_12), 0, [])) by assumption))
                        · refine Ew_of (pcₚ := 269) (fun _ => x_bipush (z := 9) rfl (by decide)) ?_
                          refine Ew_of (pcₚ := 274) (fun _ => x_goto rfl rfl) ?_
                          have : IMP (((9) : Int) = 0) (TRB (ub8 ((w1))) ((u0_5)) ((u0_7)) ((u0_8)) ((u0_9)) ((u0_10)) (sc ((w5)) 0 ((u4_1))) ((a1)) (sc ((w3)) 0 ((u2_1))) (0, 0, (y47_0_12), sc ((w47_3)) 0 ((y47_2_1)))) := fun z => absurd z (by omega)
                          have : IMP (((9) : Int) ≠ 0) (TRB (ub8 ((w1))) ((u0_5)) ((u0_7)) ((u0_8)) ((u0_9)) ((u0_10)) (sc ((w5)) 0 ((u4_1))) ((a1)) (sc ((w3)) 0 ((u2_1))) (((9) : Int), (y47_0_12), 0, [])) := fun _ => ITO_e j4_x (TRe_f (w := hwn) (m := (z19)) (by omega) hwn_ (by omega) (by omega) (by first | (obtain ⟨pq, Vq, hV1, hV2⟩ := hTBP; have hpq : pq = (y47_0_12) := (by rcases hV2 with ⟨x, y⟩ | ⟨x, y, z⟩; (exact y.symm); (omega)); have hV3 := hV1; rw [hpq] at hV3; exact TRf_b (by omega) (by omega) hk174 (by omega) (by omega) (by omega) hWx (by omega) hV3 (by omega) (by omega)) | exact TRf_3 (by omega) (by omega) hk174 (by omega) (by omega) (by omega) (by omega)))
                          exact w_ireturn rfl (k (9) _ _ _ _ _ _ _ H O (cD47) (cN47) (cF47) (cA47) (pf47_2_0) (m47_3) ((congrArg (fun q : Nat => (q : Int)) (eN47 3)).trans em47_3) (y47_0_12) (((eF47 0 12).trans ey47_0_12)) (y47_2_1) (((eF47 2 1).trans ey47_2_1)) (y47_2_2) (((eF47 2 2).trans ey47_2_2)) (w47_3) ((eA47 3).trans ew47_3) (show inr (9) from q_291) (show 0 ≤ (9) ∧ (9) ≤ 9 by first | exact q_3339 | omega) (show 0 ≤ (y47_2_1) ∧ (y47_2_1) ≤ (m47_3) ∧ (m47_3) ≤ 65536 from pz47_2) (show (u2_1) ≤ (y47_2_1) ∧ (y47_2_1) ≤ (u0_7) from q_3333 hlim j4_6 pz47_3 pz47_4) (show (9) = 0 → a1 + 4 ≤ (y47_0_12) ∧ (y47_0_12) ≤ (u0_5) by first | exact q_3338 h0 h1 r49 | omega) (show (y47_2_2) = 0 from pz47_5) (show IMP ((9) = 0) (TRB (ub8 ((w1))) ((u0_5)) ((u0_7)) ((u0_8)) ((u0_9)) ((u0_10)) (sc ((w5)) 0 ((u4_1))) (a1) (sc ((w3)) 0 ((u2_1))) (0, 0, (y47_0_12), sc ((w47_3)) 0 ((y47_2_1)))) by assumption) (show IMP ((9) ≠ 0) (TRB (ub8 ((w1))) ((u0_5)) ((u0_7)) ((u0_8)) ((u0_9)) ((u0_10)) (sc ((w5)) 0 ((u4_1))) (a1) (sc ((w3)) 0 ((u2_1))) ((9), (y47_0_12), 0, [])) by assumption))
                    · refine Ew_of (pcₚ := 227) (fun _ => x_aload_n rfl (rk_o (rk_o (lc174_0) rfl rfl) rfl rfl)) ?_
                      refine Ew_of (pcₚ := 229) (fun _ => x_iload rfl (rk_o (rk_o (lc174_6) rfl rfl) rfl rfl)) ?_
                      refine Ew_of (pcₚ := 231) (fun _ => x_iload rfl (rk_o (rk_o (lc174_5) rfl rfl) rfl rfl)) ?_
                      refine Ew_of (pcₚ := 233) (fun _ => x_iload rfl (rk_o (rk_s) rfl rfl)) ?_
                      have r54 : (-2147483648 : Int) ≤ F_4 0 12 ∧ F_4 0 12 ≤ 2147483647 := rngE (show (-2147483648 : Int) ≤ F_c174 0 12 ∧ F_c174 0 12 ≤ 2147483647 from H.krg 0 12 (ltn len_V228_oz_D5cls rfl)) (show F_c174 0 12 = F_4 0 12 from ((hS_c174 0 12 rfl).trans ((show F18 0 12 = F_4 0 12 from (eF18 0 12)))))
                      refine v_inv H (o := 0) rfl rfl rfl rfl rfl rfl (by rfl) (C229 (D := puc 403177984 D_4) (N := puc 403177984 N_4) (HW_subc H oz_D5cls_22 oz_D5cls_28) ((mF_c174 0 4 rfl).trans ((pf1).trans (congrArg (fun q : Nat => (q : Int)) (mD_4 1 rfl).symm))) ((mF_c174 0 6 rfl).trans ((pf2).trans (congrArg (fun q : Nat => (q : Int)) (mD_4 2 rfl).symm))) ((((hS_c174 2 0 rfl).trans ((show F18 2 0 = F_4 2 0 from (eF18 2 0))))).trans (pm4_3)) (n1) ((congrArg (fun q : Nat => (q : Int)) (mN_4 1 rfl)).trans (en1)) (m4_3) (em4_3) (F_4 0 12) (((hS_c174 0 12 rfl).trans ((show F18 0 12 = F_4 0 12 from (eF18 0 12))))) (y4_2_1) ((((hS_c174 2 1 rfl).trans ((show F18 2 1 = F_4 2 1 from (eF18 2 1)))).trans (ey4_2_1))) (y4_2_2) ((((hS_c174 2 2 rfl).trans ((show F18 2 2 = F_4 2 2 from (eF18 2 2)))).trans (ey4_2_2))) (w1) ((funext (mA_c174 1 rfl)).trans (ew1)) (w4_3) ((funext (hA_c174 3 rfl)).trans (((show A18 3 = A_4 3 from (eA18 3))).trans (ew4_3))) (show inr ((x4_2 + 4)) from q_3331 b17 h1 j4_0) (show inr (z19) from gz19) (show inr (z25) from q_3329 h5 hlim) (show 0 ≤ ((x4_2 + 4)) ∧ 0 ≤ (z19) ∧ ((x4_2 + 4)) + (z19) ≤ (n1) ∧ (n1) ≤ 65536 from q_3341 b24 h1 h2 hm31 j4_4) (show 0 ≤ (y4_2_1) ∧ (y4_2_1) ≤ (m4_3) ∧ (m4_3) ≤ 65536 from j4_5) (show (y4_2_1) ≤ (z25) ∧ (z25) ≤ 65536 from q_3340 h5 hlim j4_6) (show (y4_2_2) = 0 from j4_7) (fun z55 σ55 D55ₚ N55ₚ F55ₚ A55ₚ c55 s55 Hₚ Oₚ hD55 hN55 hS55 hA55 pm55_3 m55_3 em55_3 y55_0_12 ey55_0_12 y55_2_1 ey55_2_1 y55_2_2 ey55_2_2 w55_3 ew55_3 pz55_0 pz55_1 pz55_2 pz55_3 pz55_4 pz55_5 pz55_6 => ⟨rfl, ?_⟩))
                      refine v_backMc (c := c_4) (s := s_4) H oz_D5cls_22 oz_D5cls_28 Hₚ Oₚ hD55 oz_D5cls_23 (fun D55 N55 F55 A55 H Oₚ eD55 eN55 eF55 eA55 => ?_)
                      have O := OUT_trans O Oₚ
                      -- Tokens.unpackPlain
                      have cF55 : SF oz_D5clsl_7 F F55 := SF_trans (cF_c174) (SF_gluc (ι := oz_D5clsl_9) oz_D5cls_28 hS55 eF55 (by decide +kernel)) (any_sub (lₚ := [(0, 12), (2, 0), (2, 1), (2, 2)]) (by decide +kernel))
                      have mF55 := SFm_of cF55 oz_D5cls_26
                      have cA55 : SA oz_D5clsl_5 A A55 := SA_trans (cA_c174) (SA_gluc (ι := oz_D5clsl_9) oz_D5cls_28 hA55 eA55 (by decide +kernel)) (any_subA (lₚ := [3]) (by decide +kernel))
                      have mA55 := SAm_of cA55 oz_D5cls_16
                      have cD55 : SD oz_D5clsl_5 D D55 := SD_trans (cD_4) (SD_gluc (ι := oz_D5clsl_9) oz_D5cls_28 hD55 eD55 (by decide +kernel)) (any_subA (lₚ := [3]) (by decide +kernel))
                      have mD55 := SDm_of cD55 oz_D5cls_16
                      have cN55 : SD oz_D5clsl_5 N N55 := SD_trans (cN_4) (SD_gluc (ι := oz_D5clsl_9) oz_D5cls_28 hN55 eN55 (by decide +kernel)) (any_subA (lₚ := [3]) (by decide +kernel))
                      have mN55 := SDm_of cN55 oz_D5cls_16
                      have pf55_2_0 : F55 2 0 = (D55 3 : Int) := (eF55 2 0).trans (pm55_3.trans (congrArg (fun q : Nat => (q : Int)) (eD55 3).symm))
                      have r56 : (0 : Int) ≤ m55_3 ∧ m55_3 ≤ 1000000 := nleE (H.nle 3 (ltn len_V228_oz_D5cls rfl)) (show (N55 3 : Int) = m55_3 from (congrArg (fun q : Nat => (q : Int)) (eN55 3)).trans em55_3)
                      have r57 : (-2147483648 : Int) ≤ y55_0_12 ∧ y55_0_12 ≤ 2147483647 := rngE (show (-2147483648 : Int) ≤ F55 0 12 ∧ F55 0 12 ≤ 2147483647 from H.krg 0 12 (ltn len_V228_oz_D5cls rfl)) (show F55 0 12 = y55_0_12 from ((eF55 0 12).trans ey55_0_12))
                      have r58 : (-2147483648 : Int) ≤ y55_2_1 ∧ y55_2_1 ≤ 2147483647 := rngE (show (-2147483648 : Int) ≤ F55 2 1 ∧ F55 2 1 ≤ 2147483647 from H.krg 2 1 (ltn len_V228_oz_D5cls rfl)) (show F55 2 1 = y55_2_1 from ((eF55 2 1).trans ey55_2_1))
                      have r59 : (0 : Int) ≤ y55_2_2 ∧ y55_2_2 ≤ 1 := rngE (show (0 : Int) ≤ F55 2 2 ∧ F55 2 2 ≤ 1 from H.krg 2 2 (ltn len_V228_oz_D5cls rfl)) (show F55 2 2 = y55_2_2 from ((eF55 2 2).trans ey55_2_2))
                      have hp4 := pz55_4
                      have hp5 := pz55_5
                      have hp6 := pz55_6
                      refine Ew_of (pcₚ := 254) (fun _ => x_goto rfl rfl) ?_
                      try have hTBP := pz47_6
                      try have hSMB := pz47_8
                      try rw [← hqrb, ← hqcn] at hSMB
                      try rw [← hqrb, ← hqcn] at hWx
                      try rw [← hqrb, ← hqcn] at hCX
                      try rw [← hqrb, ← hqcn] at hTBP
                      refine Ew_of (pcₚ := 256) (fun _ => x_istore rfl) ?_
                      refine Ew_of (pcₚ := 258) (fun _ => x_iload rfl rk_s) ?_
                      refine w_ifeq (t := 275) rfl rfl (show inr (z55) from pz55_0) (fun b60 => ?_) (fun b60 => ?_)
                      · have hnx : ITO (TRs (ub8 ((w1))) ((u0_5)) ((u0_7)) ((u0_8)) ((u0_9)) ((u0_10)) (sc ((w5)) 0 ((u4_1)))) (TRe (ub8 ((w1))) ((u0_5)) ((u0_7)) ((u0_8)) ((u0_9)) ((u0_10)) (sc ((w5)) 0 ((u4_1)))) ((a1), sc ((w3)) 0 ((u2_1))) (((x4_2 + 4)) + (z19) + (0), sc ((w55_3)) 0 ((y55_2_1))) := by first | (have hp6_ := hp6; exact ITO_s j4_x (TRs_p (w := hwn) (m := (z19)) (by omega) hwn_ (by omega) (by omega) (by omega) (by omega) (by omega) hk174 (by omega) (by omega) (a := ((x4_2 + 4))) (b := ((x4_2 + 4)) + (z19)) (by omega) (by omega) (by rw [hCX]; try rw [hqrb, hqcn]; exact hp6 (by omega)))) | (obtain ⟨pq, Vq, hV1, hV2⟩ := hTBP; have hV0 := hV1; rw [show (z47 : Int) = 0 by omega] at hV0; exact ITO_s j4_x (TRs_b (w := hwn) (m := (z19)) (pl := pq) (X := sc ((w55_3)) (qcn) ((y55_2_1))) (by omega) hwn_ (by omega) (by omega) (by omega) (by omega) (by omega) hk174 (by omega) (by omega) (by omega) hWx (by omega) hV0 (by rcases hV2 with ⟨x, y⟩ | ⟨x, y, z⟩; (omega); ((rw [← z, List.append_assoc]; first | (rw [sc_nil (f := qrb) (a := qcn) (b := qcn) (Int.le_refl _), List.nil_append]; done) | rw [sc_cat (f := (w55_3)) (b := qcn) (by omega) (by omega), sc_same (g := qrb) (fun i u v => hSMB i (by omega) v)]))) (by rw [hCX, sc_cat (f := (w55_3)) (b := qcn) (by omega) (by omega), sc_same (g := qrb) (fun i u v => hSMB i u v)])))
                        refine Ew_of (pcₚ := 277) (fun _ => x_iload rfl (rk_o (rk_o (rk_o (lc174_6) rfl rfl) rfl rfl) rfl rfl)) ?_
                        refine Ew_of (pcₚ := 279) (fun _ => x_iload rfl (rk_o (rk_o (rk_o (lc174_5) rfl rfl) rfl rfl) rfl rfl)) ?_
                        refine w_iadd rfl ?_
                        refine Ew_of (pcₚ := 282) (fun _ => x_iload rfl (rk_o (rk_o (rk_o (lc174_7) rfl rfl) rfl rfl) rfl rfl)) ?_
                        refine w_iadd rfl ?_
                        refine Ew_of (pcₚ := 284) (fun _ => x_istore_n rfl) ?_
                        refine Ew_of (pcₚ := 287) (fun _ => x_iinc (len := 3) rfl (rk_o (rk_o (rk_o (rk_o (lc174_3) rfl rfl) rfl rfl) rfl rfl) rfl rfl)) ?_
                        refine Ew_of (pcₚ := 4) (fun _ => x_goto rfl rfl) ?_
                        exact ih4 _ (msE hm4 q_77 (q_890 b16)) _ _ _ _ _ _ _ _ ((((x4_2 + 4) + z19) + 0)) ((x4_3 + 1)) ((rk_o (rk_o (rk_o (rk_o (rk_o (lc174_0) rfl rfl) rfl rfl) rfl rfl) rfl rfl) rfl rfl).trans (congrArg (fun q : Nat => some (Value.ref q)) (((show D55 0 = D_4 0 from (eD55 0).trans (hD55 0 rfl)))).symm)) (rk_o (rk_s) rfl rfl) (rk_s) H O (SD_trans (hD_4) (SD_gluc (ι := oz_D5clsl_9) oz_D5cls_28 hD55 eD55 (by decide +kernel)) (any_subA (lₚ := [3]) (by decide +kernel))) (SD_trans (hN_4) (SD_gluc (ι := oz_D5clsl_9) oz_D5cls_28 hN55 eN55 (by decide +kernel)) (any_subA (lₚ := [3]) (by decide +kernel))) (SF_trans (SF_trans (SF_trans (hS_4) (SF_gluc (ι := oz_D5clsl_2) oz_D5cls_8 hS18 eF18 (by decide +kernel)) (any_sub (lₚ := []) (by decide +kernel))) hS_c174 (any_sub (by decide +kernel))) (SF_gluc (ι := oz_D5clsl_9) oz_D5cls_28 hS55 eF55 (by decide +kernel)) (any_sub (lₚ := [(0, 12), (2, 0), (2, 1), (2, 2)]) (by decide +kernel))) (SA_trans (SA_trans (SA_trans (hA_4) (SA_gluc (ι := oz_D5clsl_2) oz_D5cls_8 hA18 eA18 (by decide +kernel)) (any_subA (lₚ := []) (by decide +kernel))) hA_c174 (any_subA (by decide +kernel))) (SA_gluc (ι := oz_D5clsl_9) oz_D5cls_28 hA55 eA55 (by decide +kernel)) (any_subA (lₚ := [3]) (by decide +kernel))) (pf55_2_0) (m55_3) ((congrArg (fun q : Nat => (q : Int)) (eN55 3)).trans em55_3) (y55_2_1) (((eF55 2 1).trans ey55_2_1)) (y55_2_2) (((eF55 2 2).trans ey55_2_2)) (w55_3) ((eA55 3).trans ew55_3) (show inr ((((x4_2 + 4) + z19) + 0)) from q_3336 b24 h1 hm31 j4_0) (show inr ((x4_3 + 1)) from q_3335 b16 h1 j4_1) (show (a1) ≤ ((x4_3 + 1)) from q_161 j4_2) (show ((x4_3 + 1)) ≤ (a1) ∨ ((x4_3 + 1)) ≤ (((u0_5) + 1)) from q_3135 b16) (show (a1) ≤ ((((x4_2 + 4) + z19) + 0)) ∧ ((((x4_2 + 4) + z19) + 0)) ≤ (u0_5) from q_3334 b24 hm31 j4_4) (show 0 ≤ (y55_2_1) ∧ (y55_2_1) ≤ (m55_3) ∧ (m55_3) ≤ 65536 from pz55_2) (show (u2_1) ≤ (y55_2_1) ∧ (y55_2_1) ≤ (u0_7) from q_3342 hlim j4_6 pz55_3) (show (y55_2_2) = 0 from pz55_4) (show ((x4_3 + 1)) ≤ ((((x4_2 + 4) + z19) + 0)) from q_3332 hm31 j4_8) (hnx) rfl
                      · refine Ew_of (pcₚ := 263) (fun _ => x_iload rfl rk_s) ?_
                        refine Ew_of (pcₚ := 264) (fun _ => x_iconst rfl) ?_
                        refine w_icmpne (t := 272) rfl rfl (show inr (z55) from pz55_0) (show inr (1) from q_135) (fun b61 => ?_) (fun b61 => ?_)
                        · refine Ew_of (pcₚ := 274) (fun _ => x_iload rfl rk_s) ?_
                          have : IMP (((z55) : Int) = 0) (TRB (ub8 ((w1))) ((u0_5)) ((u0_7)) ((u0_8)) ((u0_9)) ((u0_10)) (sc ((w5)) 0 ((u4_1))) ((a1)) (sc ((w3)) 0 ((u2_1))) (0, 0, (y55_0_12), sc ((w55_3)) 0 ((y55_2_1)))) := fun z => absurd z (by omega)
                          have : IMP (((z55) : Int) ≠ 0) (TRB (ub8 ((w1))) ((u0_5)) ((u0_7)) ((u0_8)) ((u0_9)) ((u0_10)) (sc ((w5)) 0 ((u4_1))) ((a1)) (sc ((w3)) 0 ((u2_1))) (((z55) : Int), (y55_0_12), 0, [])) := fun _ => ITO_e j4_x (TRe_f (w := hwn) (m := (z19)) (by omega) hwn_ (by omega) (by omega) (by first | (obtain ⟨pq, Vq, hV1, hV2⟩ := hTBP; have hpq : pq = (y55_0_12) := (by rcases hV2 with ⟨x, y⟩ | ⟨x, y, z⟩; (exact y.symm); (omega)); have hV3 := hV1; rw [hpq] at hV3; exact TRf_b (by omega) (by omega) hk174 (by omega) (by omega) (by omega) hWx (by omega) hV3 (by omega) (by omega)) | exact TRf_3 (by omega) (by omega) hk174 (by omega) (by omega) (by omega) (by omega)))
                          exact w_ireturn rfl (k (z55) _ _ _ _ _ _ _ H O (cD55) (cN55) (cF55) (cA55) (pf55_2_0) (m55_3) ((congrArg (fun q : Nat => (q : Int)) (eN55 3)).trans em55_3) (y55_0_12) (((eF55 0 12).trans ey55_0_12)) (y55_2_1) (((eF55 2 1).trans ey55_2_1)) (y55_2_2) (((eF55 2 2).trans ey55_2_2)) (w55_3) ((eA55 3).trans ew55_3) (show inr (z55) from pz55_0) (show 0 ≤ (z55) ∧ (z55) ≤ 9 from q_3337 pz55_1) (show 0 ≤ (y55_2_1) ∧ (y55_2_1) ≤ (m55_3) ∧ (m55_3) ≤ 65536 from pz55_2) (show (u2_1) ≤ (y55_2_1) ∧ (y55_2_1) ≤ (u0_7) from q_3342 hlim j4_6 pz55_3) (show (z55) = 0 → a1 + 4 ≤ (y55_0_12) ∧ (y55_0_12) ≤ (u0_5) by omega) (show (y55_2_2) = 0 from pz55_4) (show IMP ((z55) = 0) (TRB (ub8 ((w1))) ((u0_5)) ((u0_7)) ((u0_8)) ((u0_9)) ((u0_10)) (sc ((w5)) 0 ((u4_1))) (a1) (sc ((w3)) 0 ((u2_1))) (0, 0, (y55_0_12), sc ((w55_3)) 0 ((y55_2_1)))) by assumption) (show IMP ((z55) ≠ 0) (TRB (ub8 ((w1))) ((u0_5)) ((u0_7)) ((u0_8)) ((u0_9)) ((u0_10)) (sc ((w5)) 0 ((u4_1))) (a1) (sc ((w3)) 0 ((u2_1))) ((z55), (y55_0_12), 0, [])) by assumption))
                        · refine Ew_of (pcₚ := 269) (fun _ => x_bipush (z := 9) rfl (by decide)) ?_
                          refine Ew_of (pcₚ := 274) (fun _ => x_goto rfl rfl) ?_
                          have : IMP (((9) : Int) = 0) (TRB (ub8 ((w1))) ((u0_5)) ((u0_7)) ((u0_8)) ((u0_9)) ((u0_10)) (sc ((w5)) 0 ((u4_1))) ((a1)) (sc ((w3)) 0 ((u2_1))) (0, 0, (y55_0_12), sc ((w55_3)) 0 ((y55_2_1)))) := fun z => absurd z (by omega)
                          have : IMP (((9) : Int) ≠ 0) (TRB (ub8 ((w1))) ((u0_5)) ((u0_7)) ((u0_8)) ((u0_9)) ((u0_10)) (sc ((w5)) 0 ((u4_1))) ((a1)) (sc ((w3)) 0 ((u2_1))) (((9) : Int), (y55_0_12), 0, [])) := fun _ => ITO_e j4_x (TRe_f (w := hwn) (m := (z19)) (by omega) hwn_ (by omega) (by omega) (by first | (obtain ⟨pq, Vq, hV1, hV2⟩ := hTBP; have hpq : pq = (y55_0_12) := (by rcases hV2 with ⟨x, y⟩ | ⟨x, y, z⟩; (exact y.symm); (omega)); have hV3 := hV1; rw [hpq] at hV3; exact TRf_b (by omega) (by omega) hk174 (by omega) (by omega) (by omega) hWx (by omega) hV3 (by omega) (by omega)) | exact TRf_3 (by omega) (by omega) hk174 (by omega) (by omega) (by omega) (by omega)))
                          exact w_ireturn rfl (k (9) _ _ _ _ _ _ _ H O (cD55) (cN55) (cF55) (cA55) (pf55_2_0) (m55_3) ((congrArg (fun q : Nat => (q : Int)) (eN55 3)).trans em55_3) (y55_0_12) (((eF55 0 12).trans ey55_0_12)) (y55_2_1) (((eF55 2 1).trans ey55_2_1)) (y55_2_2) (((eF55 2 2).trans ey55_2_2)) (w55_3) ((eA55 3).trans ew55_3) (show inr (9) from q_291) (show 0 ≤ (9) ∧ (9) ≤ 9 by first | exact q_3339 | omega) (show 0 ≤ (y55_2_1) ∧ (y55_2_1) ≤ (m55_3) ∧ (m55_3) ≤ 65536 from pz55_2) (show (u2_1) ≤ (y55_2_1) ∧ (y55_2_1) ≤ (u0_7) from q_3342 hlim j4_6 pz55_3) (show (9) = 0 → a1 + 4 ≤ (y55_0_12) ∧ (y55_0_12) ≤ (u0_5) by first | exact q_3338 h0 h1 r57 | omega) (show (y55_2_2) = 0 from pz55_4) (show IMP ((9) = 0) (TRB (ub8 ((w1))) ((u0_5)) ((u0_7)) ((u0_8)) ((u0_9)) ((u0_10)) (sc ((w5)) 0 ((u4_1))) (a1) (sc ((w3)) 0 ((u2_1))) (0, 0, (y55_0_12), sc ((w55_3)) 0 ((y55_2_1)))) by assumption) (show IMP ((9) ≠ 0) (TRB (ub8 ((w1))) ((u0_5)) ((u0_7)) ((u0_8)) ((u0_9)) ((u0_10)) (sc ((w5)) 0 ((u4_1))) (a1) (sc ((w3)) 0 ((u2_1))) ((9), (y55_0_12), 0, [])) by assumption))
                refine Ew_of (pcₚ := 129) (fun _ => x_iload rfl rk_s) ?_
                refine w_ifle (t := 174) rfl rfl (show inr (0) from q_2) (fun b62 => ?_) (fun b62 => ?_)
                · have : TRk (ub8 ((w1))) (q2) ((z19)) (TRss ((u0_8))) := by first | exact .inl (by omega) | exact TRk_y (q := ((x4_2 + 4)) + (z19)) (by omega) hx8 hy8 (by omega)
                  exact hc174  _ _ _ _  (rk_o (rk_o (rk_o (rk_o (l4_0) rfl rfl) rfl rfl) rfl rfl) rfl rfl) (rk_o (rk_o (rk_o (rk_o (l4_3) rfl rfl) rfl rfl) rfl rfl) rfl rfl) (rk_o (rk_o (rk_o (rk_s) rfl rfl) rfl rfl) rfl rfl) (rk_o (rk_o (rk_s) rfl rfl) rfl rfl) (rk_o (rk_s) rfl rfl) (rk_s) H O (SF_refl) (SA_refl)     (show TRk (ub8 ((w1))) (q2) ((z19)) (TRss ((u0_8))) by assumption)
                · refine Ew_of (pcₚ := 133) (fun _ => x_aload_n rfl (rk_o (rk_o (rk_o (rk_o (l4_0) rfl rfl) rfl rfl) rfl rfl) rfl rfl)) ?_
                  refine v_g H (o := 0) (v := .ref (D_4 1)) rfl rfl rfl rfl rfl (vrf ((mF18 0 4 rfl).trans ((pf1).trans (congrArg (fun q : Nat => (q : Int)) (mD_4 1 rfl).symm)))) ?_
                  refine Ew_of (pcₚ := 138) (fun _ => x_iload rfl (rk_o (rk_s) rfl rfl)) ?_
                  refine Ew_of (pcₚ := 140) (fun _ => x_iload rfl (rk_o (rk_o (rk_s) rfl rfl) rfl rfl)) ?_
                  refine w_iadd rfl ?_
                  refine w_stat25 rfl rfl (by rfl) (C41_Br (D := puc 1 D_4) (N := puc 1 N_4) (HW_subc H oz_D5cls_19 oz_D5cls_8) (n1) ((congrArg (fun q : Nat => (q : Int)) (mN_4 1 rfl)).trans (en1)) (w1) ((funext (mA18 1 rfl)).trans (ew1)) (show inr (((x4_2 + 4) + z19)) from q_3330 b24 h1 hm31 j4_0) (show 0 ≤ (((x4_2 + 4) + z19)) ∧ (((x4_2 + 4) + z19)) + 4 ≤ (n1) by omega) (fun z63 σ63 F63ₚ A63ₚ Hₚ Oₚ hS63 hA63 pz63_0 pz63_1 => ⟨rfl, ?_⟩))
                  refine v_backc (c := c_4) (s := s_4) H oz_D5cls_19 oz_D5cls_8 Hₚ Oₚ (fun F63 A63 H Oₚ eF63 eA63 => ?_)
                  have O := OUT_trans O Oₚ
                  -- PackHouse.word
                  have cF63 : SF oz_D5clsl_7 F F63 := SF_trans (cF18) (SF_gluc (ι := oz_D5clsl_2) oz_D5cls_8 hS63 eF63 (by decide +kernel)) (any_sub (lₚ := []) (by decide +kernel))
                  have mF63 := SFm_of cF63 oz_D5cls_26
                  have cA63 : SA oz_D5clsl_5 A A63 := SA_trans (cA18) (SA_gluc (ι := oz_D5clsl_2) oz_D5cls_8 hA63 eA63 (by decide +kernel)) (any_subA (lₚ := []) (by decide +kernel))
                  have mA63 := SAm_of cA63 oz_D5cls_16
                  have hx8 := wdm pz63_1
                  refine Ew_of (pcₚ := 145) (fun _ => x_aload_n rfl (rk_o (rk_o (rk_o (rk_o (l4_0) rfl rfl) rfl rfl) rfl rfl) rfl rfl)) ?_
                  refine v_g H (o := 0) (v := .ref (D_4 1)) rfl rfl rfl rfl rfl (vrf ((mF63 0 4 rfl).trans ((pf1).trans (congrArg (fun q : Nat => (q : Int)) (mD_4 1 rfl).symm)))) ?_
                  refine Ew_of (pcₚ := 150) (fun _ => x_iload rfl (rk_o (rk_s) rfl rfl)) ?_
                  refine Ew_of (pcₚ := 152) (fun _ => x_iload rfl (rk_o (rk_s) rfl rfl)) ?_
                  refine Ew_of (pcₚ := 154) (fun _ => x_iload rfl (rk_o (rk_o (rk_s) rfl rfl) rfl rfl)) ?_
                  refine w_iadd rfl ?_
                  refine Ew_of (pcₚ := 156) (fun _ => x_iconst rfl) ?_
                  refine w_stat25 rfl rfl (by rfl) (C49_Br (D := puc 1 D_4) (N := puc 1 N_4) (HW_subc H oz_D5cls_24 oz_D5cls_8) (n1) ((congrArg (fun q : Nat => (q : Int)) (mN_4 1 rfl)).trans (en1)) (w1) ((funext (mA63 1 rfl)).trans (ew1)) (show inr ((x4_2 + 4)) from q_3331 b17 h1 j4_0) (show inr (((x4_2 + 4) + z19)) from q_3330 b24 h1 hm31 j4_0) (show inr (0) from q_2) (show 0 ≤ ((x4_2 + 4)) ∧ ((x4_2 + 4)) ≤ (((x4_2 + 4) + z19)) ∧ (((x4_2 + 4) + z19)) ≤ (n1) from q_3344 b24 h1 h2 hm31 j4_4) (fun z64 σ64 F64ₚ A64ₚ Hₚ Oₚ hS64 hA64 pz64_0 pz64_1 => ⟨rfl, ?_⟩))
                  refine v_backc (c := c_4) (s := s_4) H oz_D5cls_24 oz_D5cls_8 Hₚ Oₚ (fun F64 A64 H Oₚ eF64 eA64 => ?_)
                  have O := OUT_trans O Oₚ
                  -- PackHouse.narrowSum
                  have cF64 : SF oz_D5clsl_7 F F64 := SF_trans (cF63) (SF_gluc (ι := oz_D5clsl_2) oz_D5cls_8 hS64 eF64 (by decide +kernel)) (any_sub (lₚ := []) (by decide +kernel))
                  have mF64 := SFm_of cF64 oz_D5cls_26
                  have cA64 : SA oz_D5clsl_5 A A64 := SA_trans (cA63) (SA_gluc (ι := oz_D5clsl_2) oz_D5cls_8 hA64 eA64 (by decide +kernel)) (any_subA (lₚ := []) (by decide +kernel))
                  have mA64 := SAm_of cA64 oz_D5cls_16
                  have hy8 : (z64) % 4294967296 = NSM (ub8 ((w1))) (q2 + 4) ((z19)) 0 % 4294967296 := by have h := pz64_1; rw [NSM_ub (by omega), h, show ((x4_2 + 4)) + (z19) - ((x4_2 + 4)) = (z19) by omega, show ((x4_2 + 4)) = q2 + 4 by omega]
                  have hyi := pz64_0
                  have hxi := pz63_0
                  refine w_icmpeq (t := 174) rfl rfl (show inr (z63) from pz63_0) (show inr (z64) from pz64_0) (fun b65 => ?_) (fun b65 => ?_)
                  · have : TRk (ub8 ((w1))) (q2) ((z19)) (TRss ((u0_8))) := by first | exact .inl (by omega) | exact TRk_y (q := ((x4_2 + 4)) + (z19)) (by omega) hx8 hy8 (by omega)
                    exact hc174  _ _ _ _  (rk_o (rk_o (rk_o (rk_o (l4_0) rfl rfl) rfl rfl) rfl rfl) rfl rfl) (rk_o (rk_o (rk_o (rk_o (l4_3) rfl rfl) rfl rfl) rfl rfl) rfl rfl) (rk_o (rk_o (rk_o (rk_s) rfl rfl) rfl rfl) rfl rfl) (rk_o (rk_o (rk_s) rfl rfl) rfl rfl) (rk_o (rk_s) rfl rfl) (rk_s) H O (SF_trans (SF_trans (SF_refl) (SF_gluc (ι := oz_D5clsl_2) oz_D5cls_8 hS63 eF63 (by decide +kernel)) (any_sub (lₚ := []) (by decide +kernel))) (SF_gluc (ι := oz_D5clsl_2) oz_D5cls_8 hS64 eF64 (by decide +kernel)) (any_sub (lₚ := []) (by decide +kernel))) (SA_trans (SA_trans (SA_refl) (SA_gluc (ι := oz_D5clsl_2) oz_D5cls_8 hA63 eA63 (by decide +kernel)) (any_subA (lₚ := []) (by decide +kernel))) (SA_gluc (ι := oz_D5clsl_2) oz_D5cls_8 hA64 eA64 (by decide +kernel)) (any_subA (lₚ := []) (by decide +kernel)))     (show TRk (ub8 ((w1))) (q2) ((z19)) (TRss ((u0_8))) by assumption)
                  · refine Ew_of (pcₚ := 163) (fun _ => x_aload_n rfl (rk_o (rk_o (rk_o (rk_o (l4_0) rfl rfl) rfl rfl) rfl rfl) rfl rfl)) ?_
                    refine Ew_of (pcₚ := 165) (fun _ => x_bipush (z := 8) rfl (by decide)) ?_
                    refine Ew_of (pcₚ := 167) (fun _ => x_iload rfl (rk_o (rk_s) rfl rfl)) ?_
                    refine Ew_of (pcₚ := 169) (fun _ => x_iload rfl (rk_o (rk_o (rk_s) rfl rfl) rfl rfl)) ?_
                    refine w_iadd rfl ?_
                    have r66 : (-2147483648 : Int) ≤ F_4 0 12 ∧ F_4 0 12 ≤ 2147483647 := rngE (show (-2147483648 : Int) ≤ F64 0 12 ∧ F64 0 12 ≤ 2147483647 from H.krg 0 12 (ltn len_V228_oz_D5cls rfl)) (show F64 0 12 = F_4 0 12 from ((((show F64 0 12 = F63 0 12 from (eF64 0 12))).trans ((show F63 0 12 = F18 0 12 from (eF63 0 12)))).trans ((show F18 0 12 = F_4 0 12 from (eF18 0 12)))))
                    refine v_inv H (o := 0) rfl rfl rfl rfl rfl rfl (by rfl) (C221 (D := puc 0 D_4) (N := puc 0 N_4) (HW_subc H oz_D5cls_25 oz_D5cls_10) (F_4 0 12) (((((show F64 0 12 = F63 0 12 from (eF64 0 12))).trans ((show F63 0 12 = F18 0 12 from (eF63 0 12)))).trans ((show F18 0 12 = F_4 0 12 from (eF18 0 12))))) (show inr (8) from q_141) (show inr (((x4_2 + 4) + z19)) from q_3330 b24 h1 hm31 j4_0) (fun z67 σ67 F67ₚ A67ₚ Hₚ Oₚ hS67 hA67 y67_0_12 ey67_0_12 pz67_0 pz67_1 pz67_2 => ⟨rfl, ?_⟩))
                    refine v_backc (c := c_4) (s := s_4) H oz_D5cls_25 oz_D5cls_10 Hₚ Oₚ (fun F67 A67 H Oₚ eF67 eA67 => ?_)
                    have O := OUT_trans O Oₚ
                    -- Tokens.fail
                    have cF67 : SF oz_D5clsl_7 F F67 := SF_trans (cF64) (SF_gluc (ι := oz_D5clsl_3) oz_D5cls_10 hS67 eF67 (by decide +kernel)) (any_sub (lₚ := [(0, 12)]) (by decide +kernel))
                    have mF67 := SFm_of cF67 oz_D5cls_26
                    have cA67 : SA oz_D5clsl_5 A A67 := SA_trans (cA64) (SA_gluc (ι := oz_D5clsl_3) oz_D5cls_10 hA67 eA67 (by decide +kernel)) (any_subA (lₚ := []) (by decide +kernel))
                    have mA67 := SAm_of cA67 oz_D5cls_16
                    have r68 : (-2147483648 : Int) ≤ y67_0_12 ∧ y67_0_12 ≤ 2147483647 := rngE (show (-2147483648 : Int) ≤ F67 0 12 ∧ F67 0 12 ≤ 2147483647 from H.krg 0 12 (ltn len_V228_oz_D5cls rfl)) (show F67 0 12 = y67_0_12 from ((eF67 0 12).trans ey67_0_12))
                    have : IMP (((z67) : Int) = 0) (TRB (ub8 ((w1))) ((u0_5)) ((u0_7)) ((u0_8)) ((u0_9)) ((u0_10)) (sc ((w5)) 0 ((u4_1))) ((a1)) (sc ((w3)) 0 ((u2_1))) (0, 0, (y67_0_12), sc ((w4_3)) 0 ((y4_2_1)))) := fun z => absurd z (by omega)
                    have : IMP (((z67) : Int) ≠ 0) (TRB (ub8 ((w1))) ((u0_5)) ((u0_7)) ((u0_8)) ((u0_9)) ((u0_10)) (sc ((w5)) 0 ((u4_1))) ((a1)) (sc ((w3)) 0 ((u2_1))) (((z67) : Int), (y67_0_12), 0, [])) := fun _ => ITO_e j4_x (TRe_f (w := hwn) (m := (z19)) (by omega) hwn_ (by omega) (by omega) (TRf_8 (q := ((x4_2 + 4)) + (z19)) (by omega) (by omega) (by omega) (by omega) hx8 hy8 (by omega) (by omega) (by omega)))
                    exact w_ireturn rfl (k (z67) _ _ _ _ _ _ _ H O (cD_4) (cN_4) (cF67) (cA67) (((((((show F67 2 0 = F64 2 0 from (eF67 2 0))).trans ((show F64 2 0 = F63 2 0 from (eF64 2 0)))).trans ((show F63 2 0 = F18 2 0 from (eF63 2 0)))).trans ((show F18 2 0 = F_4 2 0 from (eF18 2 0))))).trans (pm4_3)) (m4_3) (em4_3) (y67_0_12) (((eF67 0 12).trans ey67_0_12)) (y4_2_1) (((((((show F67 2 1 = F64 2 1 from (eF67 2 1))).trans ((show F64 2 1 = F63 2 1 from (eF64 2 1)))).trans ((show F63 2 1 = F18 2 1 from (eF63 2 1)))).trans ((show F18 2 1 = F_4 2 1 from (eF18 2 1)))).trans (ey4_2_1))) (y4_2_2) (((((((show F67 2 2 = F64 2 2 from (eF67 2 2))).trans ((show F64 2 2 = F63 2 2 from (eF64 2 2)))).trans ((show F63 2 2 = F18 2 2 from (eF63 2 2)))).trans ((show F18 2 2 = F_4 2 2 from (eF18 2 2)))).trans (ey4_2_2))) (w4_3) (((show A67 3 = A64 3 from (eA67 3))).trans (((show A64 3 = A63 3 from (eA64 3))).trans (((show A63 3 = A18 3 from (eA63 3))).trans (((show A18 3 = A_4 3 from (eA18 3))).trans (ew4_3))))) (show inr (z67) from pz67_0) (show 0 ≤ (z67) ∧ (z67) ≤ 9 from q_3346 pz67_1) (show 0 ≤ (y4_2_1) ∧ (y4_2_1) ≤ (m4_3) ∧ (m4_3) ≤ 65536 from j4_5) (show (u2_1) ≤ (y4_2_1) ∧ (y4_2_1) ≤ (u0_7) from j4_6) (show (z67) = 0 → a1 + 4 ≤ (y67_0_12) ∧ (y67_0_12) ≤ (u0_5) from q_3345 b24 h0 pz67_1 pz67_2 r68) (show (y4_2_2) = 0 from j4_7) (show IMP ((z67) = 0) (TRB (ub8 ((w1))) ((u0_5)) ((u0_7)) ((u0_8)) ((u0_9)) ((u0_10)) (sc ((w5)) 0 ((u4_1))) (a1) (sc ((w3)) 0 ((u2_1))) (0, 0, (y67_0_12), sc ((w4_3)) 0 ((y4_2_1)))) by assumption) (show IMP ((z67) ≠ 0) (TRB (ub8 ((w1))) ((u0_5)) ((u0_7)) ((u0_8)) ((u0_9)) ((u0_10)) (sc ((w5)) 0 ((u4_1))) (a1) (sc ((w3)) 0 ((u2_1))) ((z67), (y67_0_12), 0, [])) by assumption))
              · refine Ew_of (pcₚ := 118) (fun _ => x_aload_n rfl (rk_o (rk_o (rk_o (rk_o (l4_0) rfl rfl) rfl rfl) rfl rfl) rfl rfl)) ?_
                refine Ew_of (pcₚ := 119) (fun _ => x_iconst rfl) ?_
                refine Ew_of (pcₚ := 120) (fun _ => x_aload_n rfl (rk_o (rk_o (rk_o (rk_o (l4_0) rfl rfl) rfl rfl) rfl rfl) rfl rfl)) ?_
                refine v_g H (o := 0) (v := I (u0_5)) rfl rfl rfl rfl rfl (congrArg (fun z : Int => I z) (((mF18 0 5 rfl).trans (eu0_5)) : F18 0 5 = u0_5)) ?_
                have r69 : (-2147483648 : Int) ≤ F_4 0 12 ∧ F_4 0 12 ≤ 2147483647 := rngE (show (-2147483648 : Int) ≤ F18 0 12 ∧ F18 0 12 ≤ 2147483647 from H.krg 0 12 (ltn len_V228_oz_D5cls rfl)) (show F18 0 12 = F_4 0 12 from ((show F18 0 12 = F_4 0 12 from (eF18 0 12))))
                refine v_inv H (o := 0) rfl rfl rfl rfl rfl rfl (by rfl) (C221 (D := puc 0 D_4) (N := puc 0 N_4) (HW_subc H oz_D5cls_25 oz_D5cls_10) (F_4 0 12) (((show F18 0 12 = F_4 0 12 from (eF18 0 12)))) (show inr (1) from q_135) (show inr (u0_5) from q_38 h1) (fun z70 σ70 F70ₚ A70ₚ Hₚ Oₚ hS70 hA70 y70_0_12 ey70_0_12 pz70_0 pz70_1 pz70_2 => ⟨rfl, ?_⟩))
                refine v_backc (c := c_4) (s := s_4) H oz_D5cls_25 oz_D5cls_10 Hₚ Oₚ (fun F70 A70 H Oₚ eF70 eA70 => ?_)
                have O := OUT_trans O Oₚ
                -- Tokens.fail
                have cF70 : SF oz_D5clsl_7 F F70 := SF_trans (cF18) (SF_gluc (ι := oz_D5clsl_3) oz_D5cls_10 hS70 eF70 (by decide +kernel)) (any_sub (lₚ := [(0, 12)]) (by decide +kernel))
                have mF70 := SFm_of cF70 oz_D5cls_26
                have cA70 : SA oz_D5clsl_5 A A70 := SA_trans (cA18) (SA_gluc (ι := oz_D5clsl_3) oz_D5cls_10 hA70 eA70 (by decide +kernel)) (any_subA (lₚ := []) (by decide +kernel))
                have mA70 := SAm_of cA70 oz_D5cls_16
                have r71 : (-2147483648 : Int) ≤ y70_0_12 ∧ y70_0_12 ≤ 2147483647 := rngE (show (-2147483648 : Int) ≤ F70 0 12 ∧ F70 0 12 ≤ 2147483647 from H.krg 0 12 (ltn len_V228_oz_D5cls rfl)) (show F70 0 12 = y70_0_12 from ((eF70 0 12).trans ey70_0_12))
                have : IMP (((z70) : Int) = 0) (TRB (ub8 ((w1))) ((u0_5)) ((u0_7)) ((u0_8)) ((u0_9)) ((u0_10)) (sc ((w5)) 0 ((u4_1))) ((a1)) (sc ((w3)) 0 ((u2_1))) (0, 0, (y70_0_12), sc ((w4_3)) 0 ((y4_2_1)))) := fun z => absurd z (by omega)
                have : IMP (((z70) : Int) ≠ 0) (TRB (ub8 ((w1))) ((u0_5)) ((u0_7)) ((u0_8)) ((u0_9)) ((u0_10)) (sc ((w5)) 0 ((u4_1))) ((a1)) (sc ((w3)) 0 ((u2_1))) (((z70) : Int), (y70_0_12), 0, [])) := fun _ => ITO_e j4_x (TRe_f (w := hwn) (m := (z19)) (by omega) hwn_ (by omega) (by omega) (TRf_1 (by omega) (by omega) (by omega) (by omega)))
                exact w_ireturn rfl (k (z70) _ _ _ _ _ _ _ H O (cD_4) (cN_4) (cF70) (cA70) (((((show F70 2 0 = F18 2 0 from (eF70 2 0))).trans ((show F18 2 0 = F_4 2 0 from (eF18 2 0))))).trans (pm4_3)) (m4_3) (em4_3) (y70_0_12) (((eF70 0 12).trans ey70_0_12)) (y4_2_1) (((((show F70 2 1 = F18 2 1 from (eF70 2 1))).trans ((show F18 2 1 = F_4 2 1 from (eF18 2 1)))).trans (ey4_2_1))) (y4_2_2) (((((show F70 2 2 = F18 2 2 from (eF70 2 2))).trans ((show F18 2 2 = F_4 2 2 from (eF18 2 2)))).trans (ey4_2_2))) (w4_3) (((show A70 3 = A18 3 from (eA70 3))).trans (((show A18 3 = A_4 3 from (eA18 3))).trans (ew4_3))) (show inr (z70) from pz70_0) (show 0 ≤ (z70) ∧ (z70) ≤ 9 from q_3348 pz70_1) (show 0 ≤ (y4_2_1) ∧ (y4_2_1) ≤ (m4_3) ∧ (m4_3) ≤ 65536 from j4_5) (show (u2_1) ≤ (y4_2_1) ∧ (y4_2_1) ≤ (u0_7) from j4_6) (show (z70) = 0 → a1 + 4 ≤ (y70_0_12) ∧ (y70_0_12) ≤ (u0_5) from q_3347 h2 pz70_1 pz70_2) (show (y4_2_2) = 0 from j4_7) (show IMP ((z70) = 0) (TRB (ub8 ((w1))) ((u0_5)) ((u0_7)) ((u0_8)) ((u0_9)) ((u0_10)) (sc ((w5)) 0 ((u4_1))) (a1) (sc ((w3)) 0 ((u2_1))) (0, 0, (y70_0_12), sc ((w4_3)) 0 ((y4_2_1)))) by assumption) (show IMP ((z70) ≠ 0) (TRB (ub8 ((w1))) ((u0_5)) ((u0_7)) ((u0_8)) ((u0_9)) ((u0_10)) (sc ((w5)) 0 ((u4_1))) (a1) (sc ((w3)) 0 ((u2_1))) ((z70), (y70_0_12), 0, [])) by assumption))
            · refine Ew_of (pcₚ := 96) (fun _ => x_iconst rfl) ?_
              refine Ew_of (pcₚ := 100) (fun _ => x_goto rfl rfl) ?_
              refine Ew_of (pcₚ := 102) (fun _ => x_istore rfl) ?_
              have hss : (4) = TRss ((u0_8)) := by first | (rw [TRss_0 (by omega)]) | (rw [TRss_4 (by omega)])
              refine Ew_of (pcₚ := 103) (fun _ => x_aload_n rfl (rk_o (rk_o (rk_o (rk_o (l4_0) rfl rfl) rfl rfl) rfl rfl) rfl rfl)) ?_
              refine v_g H (o := 0) (v := I (u0_5)) rfl rfl rfl rfl rfl (congrArg (fun z : Int => I z) (((mF18 0 5 rfl).trans (eu0_5)) : F18 0 5 = u0_5)) ?_
              refine Ew_of (pcₚ := 108) (fun _ => x_iload rfl (rk_o (rk_s) rfl rfl)) ?_
              refine w_isub rfl ?_
              refine Ew_of (pcₚ := 111) (fun _ => x_iload rfl (rk_o (rk_o (rk_s) rfl rfl) rfl rfl)) ?_
              refine Ew_of (pcₚ := 113) (fun _ => x_iload rfl rk_s) ?_
              refine w_iadd rfl ?_
              refine w_icmpge (t := 127) rfl rfl (show inr ((u0_5 - (x4_2 + 4))) from q_3321 b17 h1 h2 j4_4) (show inr ((z19 + 4)) by omega) (fun b72 => ?_) (fun b72 => ?_)
              · have hc174 : ∀ (ls : rO) (σ : rS) (F_c174 : hF) (A_c174 : hA) , rlook ls 0 = some (.ref (D_4 0)) → rlook ls 3 = some (I (x4_3)) → rlook ls 4 = some (I (z18)) → rlook ls 5 = some (I (z19)) → rlook ls 6 = some (I ((x4_2 + 4))) → rlook ls 7 = some (I (4)) → HW V228 σ D_4 N_4 F_c174 A_c174 → OUT (V228).length D N σE c s D_4 N_4 σ c_4 s_4 → SF [] F18 F_c174 → SA [] A18 A_c174 → (TRk (ub8 ((w1))) (q2) ((z19)) (TRss ((u0_8)))) → Ew 228 (d + 4) 174 ls [] σ c_4 s_4 Q := by
                 as_aux_lemma =>
                  intro  ls σ F_c174 A_c174  lc174_0 lc174_3 lc174_4 lc174_5 lc174_6 lc174_7 H O hS_c174 hA_c174     jc174_0
                  have cF_c174 : SF oz_D5clsl_7 F F_c174 := SF_trans (cF18) hS_c174 (any_sub (by decide +kernel))
                  have mF_c174 := SFm_of cF_c174 oz_D5cls_26
                  have cA_c174 : SA oz_D5clsl_5 A A_c174 := SA_trans (cA18) hA_c174 (any_subA (by decide +kernel))
                  have mA_c174 := SAm_of cA_c174 oz_D5cls_16
                  have hk174 : TRk (ub8 ((w1))) (q2) ((z19)) (TRss ((u0_8))) := jc174_0
                  refine Ew_of (pcₚ := 175) (fun _ => x_aload_n rfl lc174_0) ?_
                  refine v_g H (o := 0) (v := I (u0_7)) rfl rfl rfl rfl rfl (congrArg (fun z : Int => I z) (((mF_c174 0 7 rfl).trans (eu0_7)) : F_c174 0 7 = u0_7)) ?_
                  refine Ew_of (pcₚ := 179) (fun _ => x_aload_n rfl lc174_0) ?_
                  refine v_g H (o := 0) (v := .ref (D_4 2)) rfl rfl rfl rfl rfl (vrf ((mF_c174 0 6 rfl).trans ((pf2).trans (congrArg (fun q : Nat => (q : Int)) (mD_4 2 rfl).symm)))) ?_
                  refine v_g H (o := 2) (v := I (y4_2_1)) rfl rfl rfl rfl rfl (congrArg (fun z : Int => I z) ((((hS_c174 2 1 rfl).trans ((show F18 2 1 = F_4 2 1 from (eF18 2 1)))).trans (ey4_2_1)) : F_c174 2 1 = y4_2_1)) ?_
                  refine Ew_of (pcₚ := 186) (fun _ => x_aload_n rfl lc174_0) ?_
                  refine v_g H (o := 0) (v := I (u0_9)) rfl rfl rfl rfl rfl (congrArg (fun z : Int => I z) (((mF_c174 0 9 rfl).trans (eu0_9)) : F_c174 0 9 = u0_9)) ?_
                  refine w_iadd rfl ?_
                  refine v_min rfl rfl (show inr (u0_7) from q_3322 h5) (show inr ((y4_2_1 + u0_9)) by omega) (fun z73 gz73 => ?_)
                  have hlim : (z73) = (u0_7) := q_3323 gz73 h5 h7 j4_5
                  refine Ew_of (pcₚ := 195) (fun _ => x_istore rfl) ?_
                  refine Ew_of (pcₚ := 196) (fun _ => x_aload_n rfl (rk_o (lc174_0) rfl rfl)) ?_
                  refine v_g H (o := 0) (v := I (u0_8)) rfl rfl rfl rfl rfl (congrArg (fun z : Int => I z) (((mF_c174 0 8 rfl).trans (eu0_8)) : F_c174 0 8 = u0_8)) ?_
                  refine Ew_of (pcₚ := 201) (fun _ => x_bipush (z := 32) rfl (by decide)) ?_
                  refine w_iandE rfl (show inr (u0_8) from q_18 r3) (show inr (32) from q_655) (fun z74 gz74 gaz74 gbz74 gez74 => ?_)
                  refine w_ifeq (t := 215) rfl rfl (show inr (z74) from gz74) (fun b75 => ?_) (fun b75 => ?_)
                  · refine Ew_of (pcₚ := 216) (fun _ => x_aload_n rfl (rk_o (lc174_0) rfl rfl)) ?_
                    refine v_g H (o := 0) (v := I (u0_10)) rfl rfl rfl rfl rfl (congrArg (fun z : Int => I z) (((mF_c174 0 10 rfl).trans (eu0_10)) : F_c174 0 10 = u0_10)) ?_
                    refine Ew_of (pcₚ := 221) (fun _ => x_istore rfl) ?_
                    have hb9 : (u0_10) = (u0_10) ∧ andI ((u0_8)) 32 = 0 ∨ (u0_10) = (y4_2_1) ∧ andI ((u0_8)) 32 ≠ 0 := q_3324 b75 gez74
                    have hWx : sc ((w5)) 0 ((u4_1)) ++ sc ((w4_3)) ((u0_10)) ((y4_2_1)) = TRh ((u0_8)) (sc ((w5)) 0 ((u4_1))) CX ((u0_10)) := by rw [hCX]; exact TRh_v rfl (by omega) hb9
                    obtain ⟨qcn, hqcn⟩ : ∃ q : Int, q = (y4_2_1) := ⟨_, rfl⟩
                    obtain ⟨qrb, hqrb⟩ : ∃ q : Int → Int, q = (w4_3) := ⟨_, rfl⟩
                    refine Ew_of (pcₚ := 223) (fun _ => x_iload rfl (rk_o (rk_o (lc174_4) rfl rfl) rfl rfl)) ?_
                    refine w_ifge (t := 239) rfl rfl (show inr (z18) from pz18_0) (fun b76 => ?_) (fun b76 => ?_)
                    · refine Ew_of (pcₚ := 240) (fun _ => x_aload_n rfl (rk_o (rk_o (lc174_0) rfl rfl) rfl rfl)) ?_
                      refine Ew_of (pcₚ := 242) (fun _ => x_iload rfl (rk_o (rk_o (lc174_6) rfl rfl) rfl rfl)) ?_
                      refine Ew_of (pcₚ := 244) (fun _ => x_iload rfl (rk_o (rk_o (lc174_6) rfl rfl) rfl rfl)) ?_
                      refine Ew_of (pcₚ := 246) (fun _ => x_iload rfl (rk_o (rk_o (lc174_5) rfl rfl) rfl rfl)) ?_
                      refine w_iadd rfl ?_
                      refine Ew_of (pcₚ := 249) (fun _ => x_iload rfl rk_s) ?_
                      refine Ew_of (pcₚ := 251) (fun _ => x_iload rfl (rk_o (rk_s) rfl rfl)) ?_
                      have r77 : (-2147483648 : Int) ≤ F_4 0 12 ∧ F_4 0 12 ≤ 2147483647 := rngE (show (-2147483648 : Int) ≤ F_c174 0 12 ∧ F_c174 0 12 ≤ 2147483647 from H.krg 0 12 (ltn len_V228_oz_D5cls rfl)) (show F_c174 0 12 = F_4 0 12 from ((hS_c174 0 12 rfl).trans ((show F18 0 12 = F_4 0 12 from (eF18 0 12)))))
                      refine v_inv H (o := 0) rfl rfl rfl rfl rfl rfl (by rfl) (C224 (D := puc 176197141529088 D_4) (N := puc 176197141529088 N_4) (HW_subc H oz_D5cls_20 oz_D5cls_27) ((mF_c174 0 4 rfl).trans ((pf1).trans (congrArg (fun q : Nat => (q : Int)) (mD_4 1 rfl).symm))) ((mF_c174 0 6 rfl).trans ((pf2).trans (congrArg (fun q : Nat => (q : Int)) (mD_4 2 rfl).symm))) ((((hS_c174 2 0 rfl).trans ((show F18 2 0 = F_4 2 0 from (eF18 2 0))))).trans (pm4_3)) ((mF_c174 0 1 rfl).trans ((pf4).trans (congrArg (fun q : Nat => (q : Int)) (mD_4 4 rfl).symm))) ((mF_c174 4 0 rfl).trans ((pf5).trans (congrArg (fun q : Nat => (q : Int)) (mD_4 5 rfl).symm))) (n1) ((congrArg (fun q : Nat => (q : Int)) (mN_4 1 rfl)).trans (en1)) (m4_3) (em4_3) (n5) ((congrArg (fun q : Nat => (q : Int)) (mN_4 5 rfl)).trans (en5)) (F_4 0 12) (((hS_c174 0 12 rfl).trans ((show F18 0 12 = F_4 0 12 from (eF18 0 12))))) (y4_2_1) ((((hS_c174 2 1 rfl).trans ((show F18 2 1 = F_4 2 1 from (eF18 2 1)))).trans (ey4_2_1))) (y4_2_2) ((((hS_c174 2 2 rfl).trans ((show F18 2 2 = F_4 2 2 from (eF18 2 2)))).trans (ey4_2_2))) (u4_1) (((mF_c174 4 1 rfl).trans (eu4_1))) (w1) ((funext (mA_c174 1 rfl)).trans (ew1)) (w4_3) ((funext (hA_c174 3 rfl)).trans (((show A18 3 = A_4 3 from (eA18 3))).trans (ew4_3))) (w5) ((funext (mA_c174 5 rfl)).trans (ew5)) (show inr ((x4_2 + 4)) from q_3331 b17 h1 j4_0) (show inr (((x4_2 + 4) + z19)) from q_3350 b72 h1 hm31 j4_0) (show inr (u0_10) from q_512 h6 r5) (show inr (z73) from q_3329 h5 hlim) (show 0 ≤ ((x4_2 + 4)) ∧ ((x4_2 + 4)) ≤ (((x4_2 + 4) + z19)) ∧ (((x4_2 + 4) + z19)) ≤ (n1) ∧ (n1) ≤ 65536 from q_3349 b72 h1 h2 hm31 j4_4) (show 0 ≤ (y4_2_1) ∧ (y4_2_1) ≤ (m4_3) ∧ (m4_3) ≤ 65536 from j4_5) (show 0 ≤ (u4_1) ∧ (u4_1) ≤ (n5) ∧ (n5) ≤ 65536 from h4) (show 0 ≤ (u0_10) ∧ (u0_10) ≤ (y4_2_1) from q_3327 h6 j4_6) (show 0 ≤ (z73) ∧ (z73) ≤ 65536 from q_3326 h5 hlim) (show (y4_2_2) = 0 ∧ (y4_2_1) ≤ (z73) from q_3325 hlim j4_6 j4_7) (fun z78 σ78 D78ₚ N78ₚ F78ₚ A78ₚ c78 s78 Hₚ Oₚ hD78 hN78 hS78 hA78 pm78_3 m78_3 em78_3 y78_0_12 ey78_0_12 y78_2_1 ey78_2_1 y78_2_2 ey78_2_2 w78_3 ew78_3 pz78_0 pz78_1 pz78_2 pz78_3 pz78_4 pz78_5 pz78_6 pz78_7 pz78_8 => ⟨rfl, ?_⟩))
                      refine v_backMc (c := c_4) (s := s_4) H oz_D5cls_20 oz_D5cls_27 Hₚ Oₚ hD78 oz_D5cls_21 (fun D78 N78 F78 A78 H Oₚ eD78 eN78 eF78 eA78 => ?_)
                      have O := OUT_trans O Oₚ
                      -- Tokens.unpackBlock
                      have cF78 : SF oz_D5clsl_7 F F78 := SF_trans (cF_c174) (SF_gluc (ι := oz_D5clsl_8) oz_D5cls_27 hS78 eF78 (by decide +kernel)) (any_sub (lₚ := [(0, 11), (0, 12), (2, 0), (2, 1), (2, 2)]) (by decide +kernel))
                      have mF78 := SFm_of cF78 oz_D5cls_26
                      have cA78 : SA oz_D5clsl_5 A A78 := SA_trans (cA_c174) (SA_gluc (ι := oz_D5clsl_8) oz_D5cls_27 hA78 eA78 (by decide +kernel)) (any_subA (lₚ := [3]) (by decide +kernel))
                      have mA78 := SAm_of cA78 oz_D5cls_16
                      have cD78 : SD oz_D5clsl_5 D D78 := SD_trans (cD_4) (SD_gluc (ι := oz_D5clsl_8) oz_D5cls_27 hD78 eD78 (by decide +kernel)) (any_subA (lₚ := [3]) (by decide +kernel))
                      have mD78 := SDm_of cD78 oz_D5cls_16
                      have cN78 : SD oz_D5clsl_5 N N78 := SD_trans (cN_4) (SD_gluc (ι := oz_D5clsl_8) oz_D5cls_27 hN78 eN78 (by decide +kernel)) (any_subA (lₚ := [3]) (by decide +kernel))
                      have mN78 := SDm_of cN78 oz_D5cls_16
                      have pf78_2_0 : F78 2 0 = (D78 3 : Int) := (eF78 2 0).trans (pm78_3.trans (congrArg (fun q : Nat => (q : Int)) (eD78 3).symm))
                      have r79 : (0 : Int) ≤ m78_3 ∧ m78_3 ≤ 1000000 := nleE (H.nle 3 (ltn len_V228_oz_D5cls rfl)) (show (N78 3 : Int) = m78_3 from (congrArg (fun q : Nat => (q : Int)) (eN78 3)).trans em78_3)
                      have r80 : (-2147483648 : Int) ≤ y78_0_12 ∧ y78_0_12 ≤ 2147483647 := rngE (show (-2147483648 : Int) ≤ F78 0 12 ∧ F78 0 12 ≤ 2147483647 from H.krg 0 12 (ltn len_V228_oz_D5cls rfl)) (show F78 0 12 = y78_0_12 from ((eF78 0 12).trans ey78_0_12))
                      have r81 : (-2147483648 : Int) ≤ y78_2_1 ∧ y78_2_1 ≤ 2147483647 := rngE (show (-2147483648 : Int) ≤ F78 2 1 ∧ F78 2 1 ≤ 2147483647 from H.krg 2 1 (ltn len_V228_oz_D5cls rfl)) (show F78 2 1 = y78_2_1 from ((eF78 2 1).trans ey78_2_1))
                      have r82 : (0 : Int) ≤ y78_2_2 ∧ y78_2_2 ≤ 1 := rngE (show (0 : Int) ≤ F78 2 2 ∧ F78 2 2 ≤ 1 from H.krg 2 2 (ltn len_V228_oz_D5cls rfl)) (show F78 2 2 = y78_2_2 from ((eF78 2 2).trans ey78_2_2))
                      try have hTBP := pz78_6
                      try have hSMB := pz78_8
                      try rw [← hqrb, ← hqcn] at hSMB
                      try rw [← hqrb, ← hqcn] at hWx
                      try rw [← hqrb, ← hqcn] at hCX
                      try rw [← hqrb, ← hqcn] at hTBP
                      refine Ew_of (pcₚ := 256) (fun _ => x_istore rfl) ?_
                      refine Ew_of (pcₚ := 258) (fun _ => x_iload rfl rk_s) ?_
                      refine w_ifeq (t := 275) rfl rfl (show inr (z78) from pz78_0) (fun b83 => ?_) (fun b83 => ?_)
                      · have hnx : ITO (TRs (ub8 ((w1))) ((u0_5)) ((u0_7)) ((u0_8)) ((u0_9)) ((u0_10)) (sc ((w5)) 0 ((u4_1)))) (TRe (ub8 ((w1))) ((u0_5)) ((u0_7)) ((u0_8)) ((u0_9)) ((u0_10)) (sc ((w5)) 0 ((u4_1)))) ((a1), sc ((w3)) 0 ((u2_1))) (((x4_2 + 4)) + (z19) + (4), sc ((w78_3)) 0 ((y78_2_1))) := by first | (have hp6_ := hp6; exact ITO_s j4_x (TRs_p (w := hwn) (m := (z19)) (by omega) hwn_ (by omega) (by omega) (by omega) (by omega) (by omega) hk174 (by omega) (by omega) (a := ((x4_2 + 4))) (b := ((x4_2 + 4)) + (z19)) (by omega) (by omega) (by rw [hCX]; try rw [hqrb, hqcn]; exact hp6 (by omega)))) | (obtain ⟨pq, Vq, hV1, hV2⟩ := hTBP; have hV0 := hV1; rw [show (z78 : Int) = 0 by omega] at hV0; exact ITO_s j4_x (TRs_b (w := hwn) (m := (z19)) (pl := pq) (X := sc ((w78_3)) (qcn) ((y78_2_1))) (by omega) hwn_ (by omega) (by omega) (by omega) (by omega) (by omega) hk174 (by omega) (by omega) (by omega) hWx (by omega) hV0 (by rcases hV2 with ⟨x, y⟩ | ⟨x, y, z⟩; (omega); ((rw [← z, List.append_assoc]; first | (rw [sc_nil (f := qrb) (a := qcn) (b := qcn) (Int.le_refl _), List.nil_append]; done) | rw [sc_cat (f := (w78_3)) (b := qcn) (by omega) (by omega), sc_same (g := qrb) (fun i u v => hSMB i (by omega) v)]))) (by rw [hCX, sc_cat (f := (w78_3)) (b := qcn) (by omega) (by omega), sc_same (g := qrb) (fun i u v => hSMB i u v)])))
                        refine Ew_of (pcₚ := 277) (fun _ => x_iload rfl (rk_o (rk_o (rk_o (lc174_6) rfl rfl) rfl rfl) rfl rfl)) ?_
                        refine Ew_of (pcₚ := 279) (fun _ => x_iload rfl (rk_o (rk_o (rk_o (lc174_5) rfl rfl) rfl rfl) rfl rfl)) ?_
                        refine w_iadd rfl ?_
                        refine Ew_of (pcₚ := 282) (fun _ => x_iload rfl (rk_o (rk_o (rk_o (lc174_7) rfl rfl) rfl rfl) rfl rfl)) ?_
                        refine w_iadd rfl ?_
                        refine Ew_of (pcₚ := 284) (fun _ => x_istore_n rfl) ?_
                        refine Ew_of (pcₚ := 287) (fun _ => x_iinc (len := 3) rfl (rk_o (rk_o (rk_o (rk_o (lc174_3) rfl rfl) rfl rfl) rfl rfl) rfl rfl)) ?_
                        refine Ew_of (pcₚ := 4) (fun _ => x_goto rfl rfl) ?_
                        exact ih4 _ (msE hm4 q_77 (q_890 b16)) _ _ _ _ _ _ _ _ ((((x4_2 + 4) + z19) + 4)) ((x4_3 + 1)) ((rk_o (rk_o (rk_o (rk_o (rk_o (lc174_0) rfl rfl) rfl rfl) rfl rfl) rfl rfl) rfl rfl).trans (congrArg (fun q : Nat => some (Value.ref q)) (((show D78 0 = D_4 0 from (eD78 0).trans (hD78 0 rfl)))).symm)) (rk_o (rk_s) rfl rfl) (rk_s) H O (SD_trans (hD_4) (SD_gluc (ι := oz_D5clsl_8) oz_D5cls_27 hD78 eD78 (by decide +kernel)) (any_subA (lₚ := [3]) (by decide +kernel))) (SD_trans (hN_4) (SD_gluc (ι := oz_D5clsl_8) oz_D5cls_27 hN78 eN78 (by decide +kernel)) (any_subA (lₚ := [3]) (by decide +kernel))) (SF_trans (SF_trans (SF_trans (hS_4) (SF_gluc (ι := oz_D5clsl_2) oz_D5cls_8 hS18 eF18 (by decide +kernel)) (any_sub (lₚ := []) (by decide +kernel))) hS_c174 (any_sub (by decide +kernel))) (SF_gluc (ι := oz_D5clsl_8) oz_D5cls_27 hS78 eF78 (by decide +kernel)) (any_sub (lₚ := [(0, 11), (0, 12), (2, 0), (2, 1), (2, 2)]) (by decide +kernel))) (SA_trans (SA_trans (SA_trans (hA_4) (SA_gluc (ι := oz_D5clsl_2) oz_D5cls_8 hA18 eA18 (by decide +kernel)) (any_subA (lₚ := []) (by decide +kernel))) hA_c174 (any_subA (by decide +kernel))) (SA_gluc (ι := oz_D5clsl_8) oz_D5cls_27 hA78 eA78 (by decide +kernel)) (any_subA (lₚ := [3]) (by decide +kernel))) (pf78_2_0) (m78_3) ((congrArg (fun q : Nat => (q : Int)) (eN78 3)).trans em78_3) (y78_2_1) (((eF78 2 1).trans ey78_2_1)) (y78_2_2) (((eF78 2 2).trans ey78_2_2)) (w78_3) ((eA78 3).trans ew78_3) (show inr ((((x4_2 + 4) + z19) + 4)) from q_3353 b72 h1 hm31 j4_0) (show inr ((x4_3 + 1)) from q_3335 b16 h1 j4_1) (show (a1) ≤ ((x4_3 + 1)) from q_161 j4_2) (show ((x4_3 + 1)) ≤ (a1) ∨ ((x4_3 + 1)) ≤ (((u0_5) + 1)) from q_3135 b16) (show (a1) ≤ ((((x4_2 + 4) + z19) + 4)) ∧ ((((x4_2 + 4) + z19) + 4)) ≤ (u0_5) from q_3352 b72 hm31 j4_4) (show 0 ≤ (y78_2_1) ∧ (y78_2_1) ≤ (m78_3) ∧ (m78_3) ≤ 65536 from pz78_2) (show (u2_1) ≤ (y78_2_1) ∧ (y78_2_1) ≤ (u0_7) from q_3333 hlim j4_6 pz78_3 pz78_4) (show (y78_2_2) = 0 from pz78_5) (show ((x4_3 + 1)) ≤ ((((x4_2 + 4) + z19) + 4)) from q_3351 hm31 j4_8) (hnx) rfl
                      · refine Ew_of (pcₚ := 263) (fun _ => x_iload rfl rk_s) ?_
                        refine Ew_of (pcₚ := 264) (fun _ => x_iconst rfl) ?_
                        refine w_icmpne (t := 272) rfl rfl (show inr (z78) from pz78_0) (show inr (1) from q_135) (fun b84 => ?_) (fun b84 => ?_)
                        · refine Ew_of (pcₚ := 274) (fun _ => x_iload rfl rk_s) ?_
                          have : IMP (((z78) : Int) = 0) (TRB (ub8 ((w1))) ((u0_5)) ((u0_7)) ((u0_8)) ((u0_9)) ((u0_10)) (sc ((w5)) 0 ((u4_1))) ((a1)) (sc ((w3)) 0 ((u2_1))) (0, 0, (y78_0_12), sc ((w78_3)) 0 ((y78_2_1)))) := fun z => absurd z (by omega)
                          have : IMP (((z78) : Int) ≠ 0) (TRB (ub8 ((w1))) ((u0_5)) ((u0_7)) ((u0_8)) ((u0_9)) ((u0_10)) (sc ((w5)) 0 ((u4_1))) ((a1)) (sc ((w3)) 0 ((u2_1))) (((z78) : Int), (y78_0_12), 0, [])) := fun _ => ITO_e j4_x (TRe_f (w := hwn) (m := (z19)) (by omega) hwn_ (by omega) (by omega) (by first | (obtain ⟨pq, Vq, hV1, hV2⟩ := hTBP; have hpq : pq = (y78_0_12) := (by rcases hV2 with ⟨x, y⟩ | ⟨x, y, z⟩; (exact y.symm); (omega)); have hV3 := hV1; rw [hpq] at hV3; exact TRf_b (by omega) (by omega) hk174 (by omega) (by omega) (by omega) hWx (by omega) hV3 (by omega) (by omega)) | exact TRf_3 (by omega) (by omega) hk174 (by omega) (by omega) (by omega) (by omega)))
                          exact w_ireturn rfl (k (z78) _ _ _ _ _ _ _ H O (cD78) (cN78) (cF78) (cA78) (pf78_2_0) (m78_3) ((congrArg (fun q : Nat => (q : Int)) (eN78 3)).trans em78_3) (y78_0_12) (((eF78 0 12).trans ey78_0_12)) (y78_2_1) (((eF78 2 1).trans ey78_2_1)) (y78_2_2) (((eF78 2 2).trans ey78_2_2)) (w78_3) ((eA78 3).trans ew78_3) (show inr (z78) from pz78_0) (show 0 ≤ (z78) ∧ (z78) ≤ 9 from q_3337 pz78_1) (show 0 ≤ (y78_2_1) ∧ (y78_2_1) ≤ (m78_3) ∧ (m78_3) ≤ 65536 from pz78_2) (show (u2_1) ≤ (y78_2_1) ∧ (y78_2_1) ≤ (u0_7) from q_3333 hlim j4_6 pz78_3 pz78_4) (show (z78) = 0 → a1 + 4 ≤ (y78_0_12) ∧ (y78_0_12) ≤ (u0_5) by omega) (show (y78_2_2) = 0 from pz78_5) (show IMP ((z78) = 0) (TRB (ub8 ((w1))) ((u0_5)) ((u0_7)) ((u0_8)) ((u0_9)) ((u0_10)) (sc ((w5)) 0 ((u4_1))) (a1) (sc ((w3)) 0 ((u2_1))) (0, 0, (y78_0_12), sc ((w78_3)) 0 ((y78_2_1)))) by assumption) (show IMP ((z78) ≠ 0) (TRB (ub8 ((w1))) ((u0_5)) ((u0_7)) ((u0_8)) ((u0_9)) ((u0_10)) (sc ((w5)) 0 ((u4_1))) (a1) (sc ((w3)) 0 ((u2_1))) ((z78), (y78_0_12), 0, [])) by assumption))
                        · refine Ew_of (pcₚ := 269) (fun _ => x_bipush (z := 9) rfl (by decide)) ?_
                          refine Ew_of (pcₚ := 274) (fun _ => x_goto rfl rfl) ?_
                          have : IMP (((9) : Int) = 0) (TRB (ub8 ((w1))) ((u0_5)) ((u0_7)) ((u0_8)) ((u0_9)) ((u0_10)) (sc ((w5)) 0 ((u4_1))) ((a1)) (sc ((w3)) 0 ((u2_1))) (0, 0, (y78_0_12), sc ((w78_3)) 0 ((y78_2_1)))) := fun z => absurd z (by omega)
                          have : IMP (((9) : Int) ≠ 0) (TRB (ub8 ((w1))) ((u0_5)) ((u0_7)) ((u0_8)) ((u0_9)) ((u0_10)) (sc ((w5)) 0 ((u4_1))) ((a1)) (sc ((w3)) 0 ((u2_1))) (((9) : Int), (y78_0_12), 0, [])) := fun _ => ITO_e j4_x (TRe_f (w := hwn) (m := (z19)) (by omega) hwn_ (by omega) (by omega) (by first | (obtain ⟨pq, Vq, hV1, hV2⟩ := hTBP; have hpq : pq = (y78_0_12) := (by rcases hV2 with ⟨x, y⟩ | ⟨x, y, z⟩; (exact y.symm); (omega)); have hV3 := hV1; rw [hpq] at hV3; exact TRf_b (by omega) (by omega) hk174 (by omega) (by omega) (by omega) hWx (by omega) hV3 (by omega) (by omega)) | exact TRf_3 (by omega) (by omega) hk174 (by omega) (by omega) (by omega) (by omega)))
                          exact w_ireturn rfl (k (9) _ _ _ _ _ _ _ H O (cD78) (cN78) (cF78) (cA78) (pf78_2_0) (m78_3) ((congrArg (fun q : Nat => (q : Int)) (eN78 3)).trans em78_3) (y78_0_12) (((eF78 0 12).trans ey78_0_12)) (y78_2_1) (((eF78 2 1).trans ey78_2_1)) (y78_2_2) (((eF78 2 2).trans ey78_2_2)) (w78_3) ((eA78 3).trans ew78_3) (show inr (9) from q_291) (show 0 ≤ (9) ∧ (9) ≤ 9 by first | exact q_3339 | omega) (show 0 ≤ (y78_2_1) ∧ (y78_2_1) ≤ (m78_3) ∧ (m78_3) ≤ 65536 from pz78_2) (show (u2_1) ≤ (y78_2_1) ∧ (y78_2_1) ≤ (u0_7) from q_3333 hlim j4_6 pz78_3 pz78_4) (show (9) = 0 → a1 + 4 ≤ (y78_0_12) ∧ (y78_0_12) ≤ (u0_5) by first | exact q_3338 h0 h1 r80 | omega) (show (y78_2_2) = 0 from pz78_5) (show IMP ((9) = 0) (TRB (ub8 ((w1))) ((u0_5)) ((u0_7)) ((u0_8)) ((u0_9)) ((u0_10)) (sc ((w5)) 0 ((u4_1))) (a1) (sc ((w3)) 0 ((u2_1))) (0, 0, (y78_0_12), sc ((w78_3)) 0 ((y78_2_1)))) by assumption) (show IMP ((9) ≠ 0) (TRB (ub8 ((w1))) ((u0_5)) ((u0_7)) ((u0_8)) ((u0_9)) ((u0_10)) (sc ((w5)) 0 ((u4_1))) (a1) (sc ((w3)) 0 ((u2_1))) ((9), (y78_0_12), 0, [])) by assumption))
                    · refine Ew_of (pcₚ := 227) (fun _ => x_aload_n rfl (rk_o (rk_o (lc174_0) rfl rfl) rfl rfl)) ?_
                      refine Ew_of (pcₚ := 229) (fun _ => x_iload rfl (rk_o (rk_o (lc174_6) rfl rfl) rfl rfl)) ?_
                      refine Ew_of (pcₚ := 231) (fun _ => x_iload rfl (rk_o (rk_o (lc174_5) rfl rfl) rfl rfl)) ?_
                      refine Ew_of (pcₚ := 233) (fun _ => x_iload rfl (rk_o (rk_s) rfl rfl)) ?_
                      have r85 : (-2147483648 : Int) ≤ F_4 0 12 ∧ F_4 0 12 ≤ 2147483647 := rngE (show (-2147483648 : Int) ≤ F_c174 0 12 ∧ F_c174 0 12 ≤ 2147483647 from H.krg 0 12 (ltn len_V228_oz_D5cls rfl)) (show F_c174 0 12 = F_4 0 12 from ((hS_c174 0 12 rfl).trans ((show F18 0 12 = F_4 0 12 from (eF18 0 12)))))
                      refine v_inv H (o := 0) rfl rfl rfl rfl rfl rfl (by rfl) (C229 (D := puc 403177984 D_4) (N := puc 403177984 N_4) (HW_subc H oz_D5cls_22 oz_D5cls_28) ((mF_c174 0 4 rfl).trans ((pf1).trans (congrArg (fun q : Nat => (q : Int)) (mD_4 1 rfl).symm))) ((mF_c174 0 6 rfl).trans ((pf2).trans (congrArg (fun q : Nat => (q : Int)) (mD_4 2 rfl).symm))) ((((hS_c174 2 0 rfl).trans ((show F18 2 0 = F_4 2 0 from (eF18 2 0))))).trans (pm4_3)) (n1) ((congrArg (fun q : Nat => (q : Int)) (mN_4 1 rfl)).trans (en1)) (m4_3) (em4_3) (F_4 0 12) (((hS_c174 0 12 rfl).trans ((show F18 0 12 = F_4 0 12 from (eF18 0 12))))) (y4_2_1) ((((hS_c174 2 1 rfl).trans ((show F18 2 1 = F_4 2 1 from (eF18 2 1)))).trans (ey4_2_1))) (y4_2_2) ((((hS_c174 2 2 rfl).trans ((show F18 2 2 = F_4 2 2 from (eF18 2 2)))).trans (ey4_2_2))) (w1) ((funext (mA_c174 1 rfl)).trans (ew1)) (w4_3) ((funext (hA_c174 3 rfl)).trans (((show A18 3 = A_4 3 from (eA18 3))).trans (ew4_3))) (show inr ((x4_2 + 4)) from q_3331 b17 h1 j4_0) (show inr (z19) from gz19) (show inr (z73) from q_3329 h5 hlim) (show 0 ≤ ((x4_2 + 4)) ∧ 0 ≤ (z19) ∧ ((x4_2 + 4)) + (z19) ≤ (n1) ∧ (n1) ≤ 65536 from q_3354 b72 h1 h2 hm31 j4_4) (show 0 ≤ (y4_2_1) ∧ (y4_2_1) ≤ (m4_3) ∧ (m4_3) ≤ 65536 from j4_5) (show (y4_2_1) ≤ (z73) ∧ (z73) ≤ 65536 from q_3340 h5 hlim j4_6) (show (y4_2_2) = 0 from j4_7) (fun z86 σ86 D86ₚ N86ₚ F86ₚ A86ₚ c86 s86 Hₚ Oₚ hD86 hN86 hS86 hA86 pm86_3 m86_3 em86_3 y86_0_12 ey86_0_12 y86_2_1 ey86_2_1 y86_2_2 ey86_2_2 w86_3 ew86_3 pz86_0 pz86_1 pz86_2 pz86_3 pz86_4 pz86_5 pz86_6 => ⟨rfl, ?_⟩))
                      refine v_backMc (c := c_4) (s := s_4) H oz_D5cls_22 oz_D5cls_28 Hₚ Oₚ hD86 oz_D5cls_23 (fun D86 N86 F86 A86 H Oₚ eD86 eN86 eF86 eA86 => ?_)
                      have O := OUT_trans O Oₚ
                      -- Tokens.unpackPlain
                      have cF86 : SF oz_D5clsl_7 F F86 := SF_trans (cF_c174) (SF_gluc (ι := oz_D5clsl_9) oz_D5cls_28 hS86 eF86 (by decide +kernel)) (any_sub (lₚ := [(0, 12), (2, 0), (2, 1), (2, 2)]) (by decide +kernel))
                      have mF86 := SFm_of cF86 oz_D5cls_26
                      have cA86 : SA oz_D5clsl_5 A A86 := SA_trans (cA_c174) (SA_gluc (ι := oz_D5clsl_9) oz_D5cls_28 hA86 eA86 (by decide +kernel)) (any_subA (lₚ := [3]) (by decide +kernel))
                      have mA86 := SAm_of cA86 oz_D5cls_16
                      have cD86 : SD oz_D5clsl_5 D D86 := SD_trans (cD_4) (SD_gluc (ι := oz_D5clsl_9) oz_D5cls_28 hD86 eD86 (by decide +kernel)) (any_subA (lₚ := [3]) (by decide +kernel))
                      have mD86 := SDm_of cD86 oz_D5cls_16
                      have cN86 : SD oz_D5clsl_5 N N86 := SD_trans (cN_4) (SD_gluc (ι := oz_D5clsl_9) oz_D5cls_28 hN86 eN86 (by decide +kernel)) (any_subA (lₚ := [3]) (by decide +kernel))
                      have mN86 := SDm_of cN86 oz_D5cls_16
                      have pf86_2_0 : F86 2 0 = (D86 3 : Int) := (eF86 2 0).trans (pm86_3.trans (congrArg (fun q : Nat => (q : Int)) (eD86 3).symm))
                      have r87 : (0 : Int) ≤ m86_3 ∧ m86_3 ≤ 1000000 := nleE (H.nle 3 (ltn len_V228_oz_D5cls rfl)) (show (N86 3 : Int) = m86_3 from (congrArg (fun q : Nat => (q : Int)) (eN86 3)).trans em86_3)
                      have r88 : (-2147483648 : Int) ≤ y86_0_12 ∧ y86_0_12 ≤ 2147483647 := rngE (show (-2147483648 : Int) ≤ F86 0 12 ∧ F86 0 12 ≤ 2147483647 from H.krg 0 12 (ltn len_V228_oz_D5cls rfl)) (show F86 0 12 = y86_0_12 from ((eF86 0 12).trans ey86_0_12))
                      have r89 : (-2147483648 : Int) ≤ y86_2_1 ∧ y86_2_1 ≤ 2147483647 := rngE (show (-2147483648 : Int) ≤ F86 2 1 ∧ F86 2 1 ≤ 2147483647 from H.krg 2 1 (ltn len_V228_oz_D5cls rfl)) (show F86 2 1 = y86_2_1 from ((eF86 2 1).trans ey86_2_1))
                      have r90 : (0 : Int) ≤ y86_2_2 ∧ y86_2_2 ≤ 1 := rngE (show (0 : Int) ≤ F86 2 2 ∧ F86 2 2 ≤ 1 from H.krg 2 2 (ltn len_V228_oz_D5cls rfl)) (show F86 2 2 = y86_2_2 from ((eF86 2 2).trans ey86_2_2))
                      have hp4 := pz86_4
                      have hp5 := pz86_5
                      have hp6 := pz86_6
                      refine Ew_of (pcₚ := 254) (fun _ => x_goto rfl rfl) ?_
                      try have hTBP := pz78_6
                      try have hSMB := pz78_8
                      try rw [← hqrb, ← hqcn] at hSMB
                      try rw [← hqrb, ← hqcn] at hWx
                      try rw [← hqrb, ← hqcn] at hCX
                      try rw [← hqrb, ← hqcn] at hTBP
                      refine Ew_of (pcₚ := 256) (fun _ => x_istore rfl) ?_
                      refine Ew_of (pcₚ := 258) (fun _ => x_iload rfl rk_s) ?_
                      refine w_ifeq (t := 275) rfl rfl (show inr (z86) from pz86_0) (fun b91 => ?_) (fun b91 => ?_)
                      · have hnx : ITO (TRs (ub8 ((w1))) ((u0_5)) ((u0_7)) ((u0_8)) ((u0_9)) ((u0_10)) (sc ((w5)) 0 ((u4_1)))) (TRe (ub8 ((w1))) ((u0_5)) ((u0_7)) ((u0_8)) ((u0_9)) ((u0_10)) (sc ((w5)) 0 ((u4_1)))) ((a1), sc ((w3)) 0 ((u2_1))) (((x4_2 + 4)) + (z19) + (4), sc ((w86_3)) 0 ((y86_2_1))) := by first | (have hp6_ := hp6; exact ITO_s j4_x (TRs_p (w := hwn) (m := (z19)) (by omega) hwn_ (by omega) (by omega) (by omega) (by omega) (by omega) hk174 (by omega) (by omega) (a := ((x4_2 + 4))) (b := ((x4_2 + 4)) + (z19)) (by omega) (by omega) (by rw [hCX]; try rw [hqrb, hqcn]; exact hp6 (by omega)))) | (obtain ⟨pq, Vq, hV1, hV2⟩ := hTBP; have hV0 := hV1; rw [show (z78 : Int) = 0 by omega] at hV0; exact ITO_s j4_x (TRs_b (w := hwn) (m := (z19)) (pl := pq) (X := sc ((w86_3)) (qcn) ((y86_2_1))) (by omega) hwn_ (by omega) (by omega) (by omega) (by omega) (by omega) hk174 (by omega) (by omega) (by omega) hWx (by omega) hV0 (by rcases hV2 with ⟨x, y⟩ | ⟨x, y, z⟩; (omega); ((rw [← z, List.append_assoc]; first | (rw [sc_nil (f := qrb) (a := qcn) (b := qcn) (Int.le_refl _), List.nil_append]; done) | rw [sc_cat (f := (w86_3)) (b := qcn) (by omega) (by omega), sc_same (g := qrb) (fun i u v => hSMB i (by omega) v)]))) (by rw [hCX, sc_cat (f := (w86_3)) (b := qcn) (by omega) (by omega), sc_same (g := qrb) (fun i u v => hSMB i u v)])))
                        refine Ew_of (pcₚ := 277) (fun _ => x_iload rfl (rk_o (rk_o (rk_o (lc174_6) rfl rfl) rfl rfl) rfl rfl)) ?_
                        refine Ew_of (pcₚ := 279) (fun _ => x_iload rfl (rk_o (rk_o (rk_o (lc174_5) rfl rfl) rfl rfl) rfl rfl)) ?_
                        refine w_iadd rfl ?_
                        refine Ew_of (pcₚ := 282) (fun _ => x_iload rfl (rk_o (rk_o (rk_o (lc174_7) rfl rfl) rfl rfl) rfl rfl)) ?_
                        refine w_iadd rfl ?_
                        refine Ew_of (pcₚ := 284) (fun _ => x_istore_n rfl) ?_
                        refine Ew_of (pcₚ := 287) (fun _ => x_iinc (len := 3) rfl (rk_o (rk_o (rk_o (rk_o (lc174_3) rfl rfl) rfl rfl) rfl rfl) rfl rfl)) ?_
                        refine Ew_of (pcₚ := 4) (fun _ => x_goto rfl rfl) ?_
                        exact ih4 _ (msE hm4 q_77 (q_890 b16)) _ _ _ _ _ _ _ _ ((((x4_2 + 4) + z19) + 4)) ((x4_3 + 1)) ((rk_o (rk_o (rk_o (rk_o (rk_o (lc174_0) rfl rfl) rfl rfl) rfl rfl) rfl rfl) rfl rfl).trans (congrArg (fun q : Nat => some (Value.ref q)) (((show D86 0 = D_4 0 from (eD86 0).trans (hD86 0 rfl)))).symm)) (rk_o (rk_s) rfl rfl) (rk_s) H O (SD_trans (hD_4) (SD_gluc (ι := oz_D5clsl_9) oz_D5cls_28 hD86 eD86 (by decide +kernel)) (any_subA (lₚ := [3]) (by decide +kernel))) (SD_trans (hN_4) (SD_gluc (ι := oz_D5clsl_9) oz_D5cls_28 hN86 eN86 (by decide +kernel)) (any_subA (lₚ := [3]) (by decide +kernel))) (SF_trans (SF_trans (SF_trans (hS_4) (SF_gluc (ι := oz_D5clsl_2) oz_D5cls_8 hS18 eF18 (by decide +kernel)) (any_sub (lₚ := []) (by decide +kernel))) hS_c174 (any_sub (by decide +kernel))) (SF_gluc (ι := oz_D5clsl_9) oz_D5cls_28 hS86 eF86 (by decide +kernel)) (any_sub (lₚ := [(0, 12), (2, 0), (2, 1), (2, 2)]) (by decide +kernel))) (SA_trans (SA_trans (SA_trans (hA_4) (SA_gluc (ι := oz_D5clsl_2) oz_D5cls_8 hA18 eA18 (by decide +kernel)) (any_subA (lₚ := []) (by decide +kernel))) hA_c174 (any_subA (by decide +kernel))) (SA_gluc (ι := oz_D5clsl_9) oz_D5cls_28 hA86 eA86 (by decide +kernel)) (any_subA (lₚ := [3]) (by decide +kernel))) (pf86_2_0) (m86_3) ((congrArg (fun q : Nat => (q : Int)) (eN86 3)).trans em86_3) (y86_2_1) (((eF86 2 1).trans ey86_2_1)) (y86_2_2) (((eF86 2 2).trans ey86_2_2)) (w86_3) ((eA86 3).trans ew86_3) (show inr ((((x4_2 + 4) + z19) + 4)) from q_3353 b72 h1 hm31 j4_0) (show inr ((x4_3 + 1)) from q_3335 b16 h1 j4_1) (show (a1) ≤ ((x4_3 + 1)) from q_161 j4_2) (show ((x4_3 + 1)) ≤ (a1) ∨ ((x4_3 + 1)) ≤ (((u0_5) + 1)) from q_3135 b16) (show (a1) ≤ ((((x4_2 + 4) + z19) + 4)) ∧ ((((x4_2 + 4) + z19) + 4)) ≤ (u0_5) from q_3352 b72 hm31 j4_4) (show 0 ≤ (y86_2_1) ∧ (y86_2_1) ≤ (m86_3) ∧ (m86_3) ≤ 65536 from pz86_2) (show (u2_1) ≤ (y86_2_1) ∧ (y86_2_1) ≤ (u0_7) from q_3342 hlim j4_6 pz86_3) (show (y86_2_2) = 0 from pz86_4) (show ((x4_3 + 1)) ≤ ((((x4_2 + 4) + z19) + 4)) from q_3351 hm31 j4_8) (hnx) rfl
                      · refine Ew_of (pcₚ := 263) (fun _ => x_iload rfl rk_s) ?_
                        refine Ew_of (pcₚ := 264) (fun _ => x_iconst rfl) ?_
                        refine w_icmpne (t := 272) rfl rfl (show inr (z86) from pz86_0) (show inr (1) from q_135) (fun b92 => ?_) (fun b92 => ?_)
                        · refine Ew_of (pcₚ := 274) (fun _ => x_iload rfl rk_s) ?_
                          have : IMP (((z86) : Int) = 0) (TRB (ub8 ((w1))) ((u0_5)) ((u0_7)) ((u0_8)) ((u0_9)) ((u0_10)) (sc ((w5)) 0 ((u4_1))) ((a1)) (sc ((w3)) 0 ((u2_1))) (0, 0, (y86_0_12), sc ((w86_3)) 0 ((y86_2_1)))) := fun z => absurd z (by omega)
                          have : IMP (((z86) : Int) ≠ 0) (TRB (ub8 ((w1))) ((u0_5)) ((u0_7)) ((u0_8)) ((u0_9)) ((u0_10)) (sc ((w5)) 0 ((u4_1))) ((a1)) (sc ((w3)) 0 ((u2_1))) (((z86) : Int), (y86_0_12), 0, [])) := fun _ => ITO_e j4_x (TRe_f (w := hwn) (m := (z19)) (by omega) hwn_ (by omega) (by omega) (by first | (obtain ⟨pq, Vq, hV1, hV2⟩ := hTBP; have hpq : pq = (y86_0_12) := (by rcases hV2 with ⟨x, y⟩ | ⟨x, y, z⟩; (exact y.symm); (omega)); have hV3 := hV1; rw [hpq] at hV3; exact TRf_b (by omega) (by omega) hk174 (by omega) (by omega) (by omega) hWx (by omega) hV3 (by omega) (by omega)) | exact TRf_3 (by omega) (by omega) hk174 (by omega) (by omega) (by omega) (by omega)))
                          exact w_ireturn rfl (k (z86) _ _ _ _ _ _ _ H O (cD86) (cN86) (cF86) (cA86) (pf86_2_0) (m86_3) ((congrArg (fun q : Nat => (q : Int)) (eN86 3)).trans em86_3) (y86_0_12) (((eF86 0 12).trans ey86_0_12)) (y86_2_1) (((eF86 2 1).trans ey86_2_1)) (y86_2_2) (((eF86 2 2).trans ey86_2_2)) (w86_3) ((eA86 3).trans ew86_3) (show inr (z86) from pz86_0) (show 0 ≤ (z86) ∧ (z86) ≤ 9 from q_3337 pz86_1) (show 0 ≤ (y86_2_1) ∧ (y86_2_1) ≤ (m86_3) ∧ (m86_3) ≤ 65536 from pz86_2) (show (u2_1) ≤ (y86_2_1) ∧ (y86_2_1) ≤ (u0_7) from q_3342 hlim j4_6 pz86_3) (show (z86) = 0 → a1 + 4 ≤ (y86_0_12) ∧ (y86_0_12) ≤ (u0_5) by omega) (show (y86_2_2) = 0 from pz86_4) (show IMP ((z86) = 0) (TRB (ub8 ((w1))) ((u0_5)) ((u0_7)) ((u0_8)) ((u0_9)) ((u0_10)) (sc ((w5)) 0 ((u4_1))) (a1) (sc ((w3)) 0 ((u2_1))) (0, 0, (y86_0_12), sc ((w86_3)) 0 ((y86_2_1)))) by assumption) (show IMP ((z86) ≠ 0) (TRB (ub8 ((w1))) ((u0_5)) ((u0_7)) ((u0_8)) ((u0_9)) ((u0_10)) (sc ((w5)) 0 ((u4_1))) (a1) (sc ((w3)) 0 ((u2_1))) ((z86), (y86_0_12), 0, [])) by assumption))
                        · refine Ew_of (pcₚ := 269) (fun _ => x_bipush (z := 9) rfl (by decide)) ?_
                          refine Ew_of (pcₚ := 274) (fun _ => x_goto rfl rfl) ?_
                          have : IMP (((9) : Int) = 0) (TRB (ub8 ((w1))) ((u0_5)) ((u0_7)) ((u0_8)) ((u0_9)) ((u0_10)) (sc ((w5)) 0 ((u4_1))) ((a1)) (sc ((w3)) 0 ((u2_1))) (0, 0, (y86_0_12), sc ((w86_3)) 0 ((y86_2_1)))) := fun z => absurd z (by omega)
                          have : IMP (((9) : Int) ≠ 0) (TRB (ub8 ((w1))) ((u0_5)) ((u0_7)) ((u0_8)) ((u0_9)) ((u0_10)) (sc ((w5)) 0 ((u4_1))) ((a1)) (sc ((w3)) 0 ((u2_1))) (((9) : Int), (y86_0_12), 0, [])) := fun _ => ITO_e j4_x (TRe_f (w := hwn) (m := (z19)) (by omega) hwn_ (by omega) (by omega) (by first | (obtain ⟨pq, Vq, hV1, hV2⟩ := hTBP; have hpq : pq = (y86_0_12) := (by rcases hV2 with ⟨x, y⟩ | ⟨x, y, z⟩; (exact y.symm); (omega)); have hV3 := hV1; rw [hpq] at hV3; exact TRf_b (by omega) (by omega) hk174 (by omega) (by omega) (by omega) hWx (by omega) hV3 (by omega) (by omega)) | exact TRf_3 (by omega) (by omega) hk174 (by omega) (by omega) (by omega) (by omega)))
                          exact w_ireturn rfl (k (9) _ _ _ _ _ _ _ H O (cD86) (cN86) (cF86) (cA86) (pf86_2_0) (m86_3) ((congrArg (fun q : Nat => (q : Int)) (eN86 3)).trans em86_3) (y86_0_12) (((eF86 0 12).trans ey86_0_12)) (y86_2_1) (((eF86 2 1).trans ey86_2_1)) (y86_2_2) (((eF86 2 2).trans ey86_2_2)) (w86_3) ((eA86 3).trans ew86_3) (show inr (9) from q_291) (show 0 ≤ (9) ∧ (9) ≤ 9 by first | exact q_3339 | omega) (show 0 ≤ (y86_2_1) ∧ (y86_2_1) ≤ (m86_3) ∧ (m86_3) ≤ 65536 from pz86_2) (show (u2_1) ≤ (y86_2_1) ∧ (y86_2_1) ≤ (u0_7) from q_3342 hlim j4_6 pz86_3) (show (9) = 0 → a1 + 4 ≤ (y86_0_12) ∧ (y86_0_12) ≤ (u0_5) by first | exact q_3338 h0 h1 r88 | omega) (show (y86_2_2) = 0 from pz86_4) (show IMP ((9) = 0) (TRB (ub8 ((w1))) ((u0_5)) ((u0_7)) ((u0_8)) ((u0_9)) ((u0_10)) (sc ((w5)) 0 ((u4_1))) (a1) (sc ((w3)) 0 ((u2_1))) (0, 0, (y86_0_12), sc ((w86_3)) 0 ((y86_2_1)))) by assumption) (show IMP ((9) ≠ 0) (TRB (ub8 ((w1))) ((u0_5)) ((u0_7)) ((u0_8)) ((u0_9)) ((u0_10)) (sc ((w5)) 0 ((u4_1))) (a1) (sc ((w3)) 0 ((u2_1))) ((9), (y86_0_12), 0, [])) by assumption))
                  · refine Ew_of (pcₚ := 206) (fun _ => x_aload_n rfl (rk_o (lc174_0) rfl rfl)) ?_
                    refine v_g H (o := 0) (v := .ref (D_4 2)) rfl rfl rfl rfl rfl (vrf ((mF_c174 0 6 rfl).trans ((pf2).trans (congrArg (fun q : Nat => (q : Int)) (mD_4 2 rfl).symm)))) ?_
                    refine v_g H (o := 2) (v := I (y4_2_1)) rfl rfl rfl rfl rfl (congrArg (fun z : Int => I z) ((((hS_c174 2 1 rfl).trans ((show F18 2 1 = F_4 2 1 from (eF18 2 1)))).trans (ey4_2_1)) : F_c174 2 1 = y4_2_1)) ?_
                    refine Ew_of (pcₚ := 219) (fun _ => x_goto rfl rfl) ?_
                    refine Ew_of (pcₚ := 221) (fun _ => x_istore rfl) ?_
                    have hb9 : (y4_2_1) = (u0_10) ∧ andI ((u0_8)) 32 = 0 ∨ (y4_2_1) = (y4_2_1) ∧ andI ((u0_8)) 32 ≠ 0 := by omega
                    have hWx : sc ((w5)) 0 ((u4_1)) ++ sc ((w4_3)) ((y4_2_1)) ((y4_2_1)) = TRh ((u0_8)) (sc ((w5)) 0 ((u4_1))) CX ((u0_10)) := by rw [hCX]; exact TRh_v rfl (by omega) hb9
                    obtain ⟨qcn, hqcn⟩ : ∃ q : Int, q = (y4_2_1) := ⟨_, rfl⟩
                    obtain ⟨qrb, hqrb⟩ : ∃ q : Int → Int, q = (w4_3) := ⟨_, rfl⟩
                    refine Ew_of (pcₚ := 223) (fun _ => x_iload rfl (rk_o (rk_o (lc174_4) rfl rfl) rfl rfl)) ?_
                    refine w_ifge (t := 239) rfl rfl (show inr (z18) from pz18_0) (fun b93 => ?_) (fun b93 => ?_)
                    · refine Ew_of (pcₚ := 240) (fun _ => x_aload_n rfl (rk_o (rk_o (lc174_0) rfl rfl) rfl rfl)) ?_
                      refine Ew_of (pcₚ := 242) (fun _ => x_iload rfl (rk_o (rk_o (lc174_6) rfl rfl) rfl rfl)) ?_
                      refine Ew_of (pcₚ := 244) (fun _ => x_iload rfl (rk_o (rk_o (lc174_6) rfl rfl) rfl rfl)) ?_
                      refine Ew_of (pcₚ := 246) (fun _ => x_iload rfl (rk_o (rk_o (lc174_5) rfl rfl) rfl rfl)) ?_
                      refine w_iadd rfl ?_
                      refine Ew_of (pcₚ := 249) (fun _ => x_iload rfl rk_s) ?_
                      refine Ew_of (pcₚ := 251) (fun _ => x_iload rfl (rk_o (rk_s) rfl rfl)) ?_
                      have r94 : (-2147483648 : Int) ≤ F_4 0 12 ∧ F_4 0 12 ≤ 2147483647 := rngE (show (-2147483648 : Int) ≤ F_c174 0 12 ∧ F_c174 0 12 ≤ 2147483647 from H.krg 0 12 (ltn len_V228_oz_D5cls rfl)) (show F_c174 0 12 = F_4 0 12 from ((hS_c174 0 12 rfl).trans ((show F18 0 12 = F_4 0 12 from (eF18 0 12)))))
                      refine v_inv H (o := 0) rfl rfl rfl rfl rfl rfl (by rfl) (C224 (D := puc 176197141529088 D_4) (N := puc 176197141529088 N_4) (HW_subc H oz_D5cls_20 oz_D5cls_27) ((mF_c174 0 4 rfl).trans ((pf1).trans (congrArg (fun q : Nat => (q : Int)) (mD_4 1 rfl).symm))) ((mF_c174 0 6 rfl).trans ((pf2).trans (congrArg (fun q : Nat => (q : Int)) (mD_4 2 rfl).symm))) ((((hS_c174 2 0 rfl).trans ((show F18 2 0 = F_4 2 0 from (eF18 2 0))))).trans (pm4_3)) ((mF_c174 0 1 rfl).trans ((pf4).trans (congrArg (fun q : Nat => (q : Int)) (mD_4 4 rfl).symm))) ((mF_c174 4 0 rfl).trans ((pf5).trans (congrArg (fun q : Nat => (q : Int)) (mD_4 5 rfl).symm))) (n1) ((congrArg (fun q : Nat => (q : Int)) (mN_4 1 rfl)).trans (en1)) (m4_3) (em4_3) (n5) ((congrArg (fun q : Nat => (q : Int)) (mN_4 5 rfl)).trans (en5)) (F_4 0 12) (((hS_c174 0 12 rfl).trans ((show F18 0 12 = F_4 0 12 from (eF18 0 12))))) (y4_2_1) ((((hS_c174 2 1 rfl).trans ((show F18 2 1 = F_4 2 1 from (eF18 2 1)))).trans (ey4_2_1))) (y4_2_2) ((((hS_c174 2 2 rfl).trans ((show F18 2 2 = F_4 2 2 from (eF18 2 2)))).trans (ey4_2_2))) (u4_1) (((mF_c174 4 1 rfl).trans (eu4_1))) (w1) ((funext (mA_c174 1 rfl)).trans (ew1)) (w4_3) ((funext (hA_c174 3 rfl)).trans (((show A18 3 = A_4 3 from (eA18 3))).trans (ew4_3))) (w5) ((funext (mA_c174 5 rfl)).trans (ew5)) (show inr ((x4_2 + 4)) from q_3331 b17 h1 j4_0) (show inr (((x4_2 + 4) + z19)) from q_3350 b72 h1 hm31 j4_0) (show inr (y4_2_1) from q_38 j4_5) (show inr (z73) from q_3329 h5 hlim) (show 0 ≤ ((x4_2 + 4)) ∧ ((x4_2 + 4)) ≤ (((x4_2 + 4) + z19)) ∧ (((x4_2 + 4) + z19)) ≤ (n1) ∧ (n1) ≤ 65536 from q_3349 b72 h1 h2 hm31 j4_4) (show 0 ≤ (y4_2_1) ∧ (y4_2_1) ≤ (m4_3) ∧ (m4_3) ≤ 65536 from j4_5) (show 0 ≤ (u4_1) ∧ (u4_1) ≤ (n5) ∧ (n5) ≤ 65536 from h4) (show 0 ≤ (y4_2_1) ∧ (y4_2_1) ≤ (y4_2_1) from q_3343 j4_5) (show 0 ≤ (z73) ∧ (z73) ≤ 65536 from q_3326 h5 hlim) (show (y4_2_2) = 0 ∧ (y4_2_1) ≤ (z73) from q_3325 hlim j4_6 j4_7) (fun z95 σ95 D95ₚ N95ₚ F95ₚ A95ₚ c95 s95 Hₚ Oₚ hD95 hN95 hS95 hA95 pm95_3 m95_3 em95_3 y95_0_12 ey95_0_12 y95_2_1 ey95_2_1 y95_2_2 ey95_2_2 w95_3 ew95_3 pz95_0 pz95_1 pz95_2 pz95_3 pz95_4 pz95_5 pz95_6 pz95_7 pz95_8 => ⟨rfl, ?_⟩))
                      refine v_backMc (c := c_4) (s := s_4) H oz_D5cls_20 oz_D5cls_27 Hₚ Oₚ hD95 oz_D5cls_21 (fun D95 N95 F95 A95 H Oₚ eD95 eN95 eF95 eA95 => ?_)
                      have O := OUT_trans O Oₚ
                      -- Tokens.unpackBlock
                      have cF95 : SF oz_D5clsl_7 F F95 := SF_trans (cF_c174) (SF_gluc (ι := oz_D5clsl_8) oz_D5cls_27 hS95 eF95 (by decide +kernel)) (any_sub (lₚ := [(0, 11), (0, 12), (2, 0), (2, 1), (2, 2)]) (by decide +kernel))
                      have mF95 := SFm_of cF95 oz_D5cls_26
                      have cA95 : SA oz_D5clsl_5 A A95 := SA_trans (cA_c174) (SA_gluc (ι := oz_D5clsl_8) oz_D5cls_27 hA95 eA95 (by decide +kernel)) (any_subA (lₚ := [3]) (by decide +kernel))
                      have mA95 := SAm_of cA95 oz_D5cls_16
                      have cD95 : SD oz_D5clsl_5 D D95 := SD_trans (cD_4) (SD_gluc (ι := oz_D5clsl_8) oz_D5cls_27 hD95 eD95 (by decide +kernel)) (any_subA (lₚ := [3]) (by decide +kernel))
                      have mD95 := SDm_of cD95 oz_D5cls_16
                      have cN95 : SD oz_D5clsl_5 N N95 := SD_trans (cN_4) (SD_gluc (ι := oz_D5clsl_8) oz_D5cls_27 hN95 eN95 (by decide +kernel)) (any_subA (lₚ := [3]) (by decide +kernel))
                      have mN95 := SDm_of cN95 oz_D5cls_16
                      have pf95_2_0 : F95 2 0 = (D95 3 : Int) := (eF95 2 0).trans (pm95_3.trans (congrArg (fun q : Nat => (q : Int)) (eD95 3).symm))
                      have r96 : (0 : Int) ≤ m95_3 ∧ m95_3 ≤ 1000000 := nleE (H.nle 3 (ltn len_V228_oz_D5cls rfl)) (show (N95 3 : Int) = m95_3 from (congrArg (fun q : Nat => (q : Int)) (eN95 3)).trans em95_3)
                      have r97 : (-2147483648 : Int) ≤ y95_0_12 ∧ y95_0_12 ≤ 2147483647 := rngE (show (-2147483648 : Int) ≤ F95 0 12 ∧ F95 0 12 ≤ 2147483647 from H.krg 0 12 (ltn len_V228_oz_D5cls rfl)) (show F95 0 12 = y95_0_12 from ((eF95 0 12).trans ey95_0_12))
                      have r98 : (-2147483648 : Int) ≤ y95_2_1 ∧ y95_2_1 ≤ 2147483647 := rngE (show (-2147483648 : Int) ≤ F95 2 1 ∧ F95 2 1 ≤ 2147483647 from H.krg 2 1 (ltn len_V228_oz_D5cls rfl)) (show F95 2 1 = y95_2_1 from ((eF95 2 1).trans ey95_2_1))
                      have r99 : (0 : Int) ≤ y95_2_2 ∧ y95_2_2 ≤ 1 := rngE (show (0 : Int) ≤ F95 2 2 ∧ F95 2 2 ≤ 1 from H.krg 2 2 (ltn len_V228_oz_D5cls rfl)) (show F95 2 2 = y95_2_2 from ((eF95 2 2).trans ey95_2_2))
                      try have hTBP := pz95_6
                      try have hSMB := pz95_8
                      try rw [← hqrb, ← hqcn] at hSMB
                      try rw [← hqrb, ← hqcn] at hWx
                      try rw [← hqrb, ← hqcn] at hCX
                      try rw [← hqrb, ← hqcn] at hTBP
                      refine Ew_of (pcₚ := 256) (fun _ => x_istore rfl) ?_
                      refine Ew_of (pcₚ := 258) (fun _ => x_iload rfl rk_s) ?_
                      refine w_ifeq (t := 275) rfl rfl (show inr (z95) from pz95_0) (fun b100 => ?_) (fun b100 => ?_)
                      · have hnx : ITO (TRs (ub8 ((w1))) ((u0_5)) ((u0_7)) ((u0_8)) ((u0_9)) ((u0_10)) (sc ((w5)) 0 ((u4_1)))) (TRe (ub8 ((w1))) ((u0_5)) ((u0_7)) ((u0_8)) ((u0_9)) ((u0_10)) (sc ((w5)) 0 ((u4_1)))) ((a1), sc ((w3)) 0 ((u2_1))) (((x4_2 + 4)) + (z19) + (4), sc ((w95_3)) 0 ((y95_2_1))) := by first | (have hp6_ := hp6; exact ITO_s j4_x (TRs_p (w := hwn) (m := (z19)) (by omega) hwn_ (by omega) (by omega) (by omega) (by omega) (by omega) hk174 (by omega) (by omega) (a := ((x4_2 + 4))) (b := ((x4_2 + 4)) + (z19)) (by omega) (by omega) (by rw [hCX]; try rw [hqrb, hqcn]; exact hp6 (by omega)))) | (obtain ⟨pq, Vq, hV1, hV2⟩ := hTBP; have hV0 := hV1; rw [show (z95 : Int) = 0 by omega] at hV0; exact ITO_s j4_x (TRs_b (w := hwn) (m := (z19)) (pl := pq) (X := sc ((w95_3)) (qcn) ((y95_2_1))) (by omega) hwn_ (by omega) (by omega) (by omega) (by omega) (by omega) hk174 (by omega) (by omega) (by omega) hWx (by omega) hV0 (by rcases hV2 with ⟨x, y⟩ | ⟨x, y, z⟩; (omega); ((rw [← z, List.append_assoc]; first | (rw [sc_nil (f := qrb) (a := qcn) (b := qcn) (Int.le_refl _), List.nil_append]; done) | rw [sc_cat (f := (w95_3)) (b := qcn) (by omega) (by omega), sc_same (g := qrb) (fun i u v => hSMB i (by omega) v)]))) (by rw [hCX, sc_cat (f := (w95_3)) (b := qcn) (by omega) (by omega), sc_same (g := qrb) (fun i u v => hSMB i u v)])))
                        refine Ew_of (pcₚ := 277) (fun _ => x_iload rfl (rk_o (rk_o (rk_o (lc174_6) rfl rfl) rfl rfl) rfl rfl)) ?_
                        refine Ew_of (pcₚ := 279) (fun _ => x_iload rfl (rk_o (rk_o (rk_o (lc174_5) rfl rfl) rfl rfl) rfl rfl)) ?_
                        refine w_iadd rfl ?_
                        refine Ew_of (pcₚ := 282) (fun _ => x_iload rfl (rk_o (rk_o (rk_o (lc174_7) rfl rfl) rfl rfl) rfl rfl)) ?_
                        refine w_iadd rfl ?_
                        refine Ew_of (pcₚ := 284) (fun _ => x_istore_n rfl) ?_
                        refine Ew_of (pcₚ := 287) (fun _ => x_iinc (len := 3) rfl (rk_o (rk_o (rk_o (rk_o (lc174_3) rfl rfl) rfl rfl) rfl rfl) rfl rfl)) ?_
                        refine Ew_of (pcₚ := 4) (fun _ => x_goto rfl rfl) ?_
                        exact ih4 _ (msE hm4 q_77 (q_890 b16)) _ _ _ _ _ _ _ _ ((((x4_2 + 4) + z19) + 4)) ((x4_3 + 1)) ((rk_o (rk_o (rk_o (rk_o (rk_o (lc174_0) rfl rfl) rfl rfl) rfl rfl) rfl rfl) rfl rfl).trans (congrArg (fun q : Nat => some (Value.ref q)) (((show D95 0 = D_4 0 from (eD95 0).trans (hD95 0 rfl)))).symm)) (rk_o (rk_s) rfl rfl) (rk_s) H O (SD_trans (hD_4) (SD_gluc (ι := oz_D5clsl_8) oz_D5cls_27 hD95 eD95 (by decide +kernel)) (any_subA (lₚ := [3]) (by decide +kernel))) (SD_trans (hN_4) (SD_gluc (ι := oz_D5clsl_8) oz_D5cls_27 hN95 eN95 (by decide +kernel)) (any_subA (lₚ := [3]) (by decide +kernel))) (SF_trans (SF_trans (SF_trans (hS_4) (SF_gluc (ι := oz_D5clsl_2) oz_D5cls_8 hS18 eF18 (by decide +kernel)) (any_sub (lₚ := []) (by decide +kernel))) hS_c174 (any_sub (by decide +kernel))) (SF_gluc (ι := oz_D5clsl_8) oz_D5cls_27 hS95 eF95 (by decide +kernel)) (any_sub (lₚ := [(0, 11), (0, 12), (2, 0), (2, 1), (2, 2)]) (by decide +kernel))) (SA_trans (SA_trans (SA_trans (hA_4) (SA_gluc (ι := oz_D5clsl_2) oz_D5cls_8 hA18 eA18 (by decide +kernel)) (any_subA (lₚ := []) (by decide +kernel))) hA_c174 (any_subA (by decide +kernel))) (SA_gluc (ι := oz_D5clsl_8) oz_D5cls_27 hA95 eA95 (by decide +kernel)) (any_subA (lₚ := [3]) (by decide +kernel))) (pf95_2_0) (m95_3) ((congrArg (fun q : Nat => (q : Int)) (eN95 3)).trans em95_3) (y95_2_1) (((eF95 2 1).trans ey95_2_1)) (y95_2_2) (((eF95 2 2).trans ey95_2_2)) (w95_3) ((eA95 3).trans ew95_3) (show inr ((((x4_2 + 4) + z19) + 4)) from q_3353 b72 h1 hm31 j4_0) (show inr ((x4_3 + 1)) from q_3335 b16 h1 j4_1) (show (a1) ≤ ((x4_3 + 1)) from q_161 j4_2) (show ((x4_3 + 1)) ≤ (a1) ∨ ((x4_3 + 1)) ≤ (((u0_5) + 1)) from q_3135 b16) (show (a1) ≤ ((((x4_2 + 4) + z19) + 4)) ∧ ((((x4_2 + 4) + z19) + 4)) ≤ (u0_5) from q_3352 b72 hm31 j4_4) (show 0 ≤ (y95_2_1) ∧ (y95_2_1) ≤ (m95_3) ∧ (m95_3) ≤ 65536 from pz95_2) (show (u2_1) ≤ (y95_2_1) ∧ (y95_2_1) ≤ (u0_7) from q_3333 hlim j4_6 pz95_3 pz95_4) (show (y95_2_2) = 0 from pz95_5) (show ((x4_3 + 1)) ≤ ((((x4_2 + 4) + z19) + 4)) from q_3351 hm31 j4_8) (hnx) rfl
                      · refine Ew_of (pcₚ := 263) (fun _ => x_iload rfl rk_s) ?_
                        refine Ew_of (pcₚ := 264) (fun _ => x_iconst rfl) ?_
                        refine w_icmpne (t := 272) rfl rfl (show inr (z95) from pz95_0) (show inr (1) from q_135) (fun b101 => ?_) (fun b101 => ?_)
                        · refine Ew_of (pcₚ := 274) (fun _ => x_iload rfl rk_s) ?_
                          have : IMP (((z95) : Int) = 0) (TRB (ub8 ((w1))) ((u0_5)) ((u0_7)) ((u0_8)) ((u0_9)) ((u0_10)) (sc ((w5)) 0 ((u4_1))) ((a1)) (sc ((w3)) 0 ((u2_1))) (0, 0, (y95_0_12), sc ((w95_3)) 0 ((y95_2_1)))) := fun z => absurd z (by omega)
                          have : IMP (((z95) : Int) ≠ 0) (TRB (ub8 ((w1))) ((u0_5)) ((u0_7)) ((u0_8)) ((u0_9)) ((u0_10)) (sc ((w5)) 0 ((u4_1))) ((a1)) (sc ((w3)) 0 ((u2_1))) (((z95) : Int), (y95_0_12), 0, [])) := fun _ => ITO_e j4_x (TRe_f (w := hwn) (m := (z19)) (by omega) hwn_ (by omega) (by omega) (by first | (obtain ⟨pq, Vq, hV1, hV2⟩ := hTBP; have hpq : pq = (y95_0_12) := (by rcases hV2 with ⟨x, y⟩ | ⟨x, y, z⟩; (exact y.symm); (omega)); have hV3 := hV1; rw [hpq] at hV3; exact TRf_b (by omega) (by omega) hk174 (by omega) (by omega) (by omega) hWx (by omega) hV3 (by omega) (by omega)) | exact TRf_3 (by omega) (by omega) hk174 (by omega) (by omega) (by omega) (by omega)))
                          exact w_ireturn rfl (k (z95) _ _ _ _ _ _ _ H O (cD95) (cN95) (cF95) (cA95) (pf95_2_0) (m95_3) ((congrArg (fun q : Nat => (q : Int)) (eN95 3)).trans em95_3) (y95_0_12) (((eF95 0 12).trans ey95_0_12)) (y95_2_1) (((eF95 2 1).trans ey95_2_1)) (y95_2_2) (((eF95 2 2).trans ey95_2_2)) (w95_3) ((eA95 3).trans ew95_3) (show inr (z95) from pz95_0) (show 0 ≤ (z95) ∧ (z95) ≤ 9 from q_3337 pz95_1) (show 0 ≤ (y95_2_1) ∧ (y95_2_1) ≤ (m95_3) ∧ (m95_3) ≤ 65536 from pz95_2) (show (u2_1) ≤ (y95_2_1) ∧ (y95_2_1) ≤ (u0_7) from q_3333 hlim j4_6 pz95_3 pz95_4) (show (z95) = 0 → a1 + 4 ≤ (y95_0_12) ∧ (y95_0_12) ≤ (u0_5) by omega) (show (y95_2_2) = 0 from pz95_5) (show IMP ((z95) = 0) (TRB (ub8 ((w1))) ((u0_5)) ((u0_7)) ((u0_8)) ((u0_9)) ((u0_10)) (sc ((w5)) 0 ((u4_1))) (a1) (sc ((w3)) 0 ((u2_1))) (0, 0, (y95_0_12), sc ((w95_3)) 0 ((y95_2_1)))) by assumption) (show IMP ((z95) ≠ 0) (TRB (ub8 ((w1))) ((u0_5)) ((u0_7)) ((u0_8)) ((u0_9)) ((u0_10)) (sc ((w5)) 0 ((u4_1))) (a1) (sc ((w3)) 0 ((u2_1))) ((z95), (y95_0_12), 0, [])) by assumption))
                        · refine Ew_of (pcₚ := 269) (fun _ => x_bipush (z := 9) rfl (by decide)) ?_
                          refine Ew_of (pcₚ := 274) (fun _ => x_goto rfl rfl) ?_
                          have : IMP (((9) : Int) = 0) (TRB (ub8 ((w1))) ((u0_5)) ((u0_7)) ((u0_8)) ((u0_9)) ((u0_10)) (sc ((w5)) 0 ((u4_1))) ((a1)) (sc ((w3)) 0 ((u2_1))) (0, 0, (y95_0_12), sc ((w95_3)) 0 ((y95_2_1)))) := fun z => absurd z (by omega)
                          have : IMP (((9) : Int) ≠ 0) (TRB (ub8 ((w1))) ((u0_5)) ((u0_7)) ((u0_8)) ((u0_9)) ((u0_10)) (sc ((w5)) 0 ((u4_1))) ((a1)) (sc ((w3)) 0 ((u2_1))) (((9) : Int), (y95_0_12), 0, [])) := fun _ => ITO_e j4_x (TRe_f (w := hwn) (m := (z19)) (by omega) hwn_ (by omega) (by omega) (by first | (obtain ⟨pq, Vq, hV1, hV2⟩ := hTBP; have hpq : pq = (y95_0_12) := (by rcases hV2 with ⟨x, y⟩ | ⟨x, y, z⟩; (exact y.symm); (omega)); have hV3 := hV1; rw [hpq] at hV3; exact TRf_b (by omega) (by omega) hk174 (by omega) (by omega) (by omega) hWx (by omega) hV3 (by omega) (by omega)) | exact TRf_3 (by omega) (by omega) hk174 (by omega) (by omega) (by omega) (by omega)))
                          exact w_ireturn rfl (k (9) _ _ _ _ _ _ _ H O (cD95) (cN95) (cF95) (cA95) (pf95_2_0) (m95_3) ((congrArg (fun q : Nat => (q : Int)) (eN95 3)).trans em95_3) (y95_0_12) (((eF95 0 12).trans ey95_0_12)) (y95_2_1) (((eF95 2 1).trans ey95_2_1)) (y95_2_2) (((eF95 2 2).trans ey95_2_2)) (w95_3) ((eA95 3).trans ew95_3) (show inr (9) from q_291) (show 0 ≤ (9) ∧ (9) ≤ 9 by first | exact q_3339 | omega) (show 0 ≤ (y95_2_1) ∧ (y95_2_1) ≤ (m95_3) ∧ (m95_3) ≤ 65536 from pz95_2) (show (u2_1) ≤ (y95_2_1) ∧ (y95_2_1) ≤ (u0_7) from q_3333 hlim j4_6 pz95_3 pz95_4) (show (9) = 0 → a1 + 4 ≤ (y95_0_12) ∧ (y95_0_12) ≤ (u0_5) by first | exact q_3338 h0 h1 r97 | omega) (show (y95_2_2) = 0 from pz95_5) (show IMP ((9) = 0) (TRB (ub8 ((w1))) ((u0_5)) ((u0_7)) ((u0_8)) ((u0_9)) ((u0_10)) (sc ((w5)) 0 ((u4_1))) (a1) (sc ((w3)) 0 ((u2_1))) (0, 0, (y95_0_12), sc ((w95_3)) 0 ((y95_2_1)))) by assumption) (show IMP ((9) ≠ 0) (TRB (ub8 ((w1))) ((u0_5)) ((u0_7)) ((u0_8)) ((u0_9)) ((u0_10)) (sc ((w5)) 0 ((u4_1))) (a1) (sc ((w3)) 0 ((u2_1))) ((9), (y95_0_12), 0, [])) by assumption))
                    · refine Ew_of (pcₚ := 227) (fun _ => x_aload_n rfl (rk_o (rk_o (lc174_0) rfl rfl) rfl rfl)) ?_
                      refine Ew_of (pcₚ := 229) (fun _ => x_iload rfl (rk_o (rk_o (lc174_6) rfl rfl) rfl rfl)) ?_
                      refine Ew_of (pcₚ := 231) (fun _ => x_iload rfl (rk_o (rk_o (lc174_5) rfl rfl) rfl rfl)) ?_
                      refine Ew_of (pcₚ := 233) (fun _ => x_iload rfl (rk_o (rk_s) rfl rfl)) ?_
                      have r102 : (-2147483648 : Int) ≤ F_4 0 12 ∧ F_4 0 12 ≤ 2147483647 := rngE (show (-2147483648 : Int) ≤ F_c174 0 12 ∧ F_c174 0 12 ≤ 2147483647 from H.krg 0 12 (ltn len_V228_oz_D5cls rfl)) (show F_c174 0 12 = F_4 0 12 from ((hS_c174 0 12 rfl).trans ((show F18 0 12 = F_4 0 12 from (eF18 0 12)))))
                      refine v_inv H (o := 0) rfl rfl rfl rfl rfl rfl (by rfl) (C229 (D := puc 403177984 D_4) (N := puc 403177984 N_4) (HW_subc H oz_D5cls_22 oz_D5cls_28) ((mF_c174 0 4 rfl).trans ((pf1).trans (congrArg (fun q : Nat => (q : Int)) (mD_4 1 rfl).symm))) ((mF_c174 0 6 rfl).trans ((pf2).trans (congrArg (fun q : Nat => (q : Int)) (mD_4 2 rfl).symm))) ((((hS_c174 2 0 rfl).trans ((show F18 2 0 = F_4 2 0 from (eF18 2 0))))).trans (pm4_3)) (n1) ((congrArg (fun q : Nat => (q : Int)) (mN_4 1 rfl)).trans (en1)) (m4_3) (em4_3) (F_4 0 12) (((hS_c174 0 12 rfl).trans ((show F18 0 12 = F_4 0 12 from (eF18 0 12))))) (y4_2_1) ((((hS_c174 2 1 rfl).trans ((show F18 2 1 = F_4 2 1 from (eF18 2 1)))).trans (ey4_2_1))) (y4_2_2) ((((hS_c174 2 2 rfl).trans ((show F18 2 2 = F_4 2 2 from (eF18 2 2)))).trans (ey4_2_2))) (w1) ((funext (mA_c174 1 rfl)).trans (ew1)) (w4_3) ((funext (hA_c174 3 rfl)).trans (((show A18 3 = A_4 3 from (eA18 3))).trans (ew4_3))) (show inr ((x4_2 + 4)) from q_3331 b17 h1 j4_0) (show inr (z19) from gz19) (show inr (z73) from q_3329 h5 hlim) (show 0 ≤ ((x4_2 + 4)) ∧ 0 ≤ (z19) ∧ ((x4_2 + 4)) + (z19) ≤ (n1) ∧ (n1) ≤ 65536 from q_3354 b72 h1 h2 hm31 j4_4) (show 0 ≤ (y4_2_1) ∧ (y4_2_1) ≤ (m4_3) ∧ (m4_3) ≤ 65536 from j4_5) (show (y4_2_1) ≤ (z73) ∧ (z73) ≤ 65536 from q_3340 h5 hlim j4_6) (show (y4_2_2) = 0 from j4_7) (fun z103 σ103 D103ₚ N103ₚ F103ₚ A103ₚ c103 s103 Hₚ Oₚ hD103 hN103 hS103 hA103 pm103_3 m103_3 em103_3 y103_0_12 ey103_0_12 y103_2_1 ey103_2_1 y103_2_2 ey103_2_2 w103_3 ew103_3 pz103_0 pz103_1 pz103_2 pz103_3 pz103_4 pz103_5 pz103_6 => ⟨rfl, ?_⟩))
                      refine v_backMc (c := c_4) (s := s_4) H oz_D5cls_22 oz_D5cls_28 Hₚ Oₚ hD103 oz_D5cls_23 (fun D103 N103 F103 A103 H Oₚ eD103 eN103 eF103 eA103 => ?_)
                      have O := OUT_trans O Oₚ
                      -- Tokens.unpackPlain
                      have cF103 : SF oz_D5clsl_7 F F103 := SF_trans (cF_c174) (SF_gluc (ι := oz_D5clsl_9) oz_D5cls_28 hS103 eF103 (by decide +kernel)) (any_sub (lₚ := [(0, 12), (2, 0), (2, 1), (2, 2)]) (by decide +kernel))
                      have mF103 := SFm_of cF103 oz_D5cls_26
                      have cA103 : SA oz_D5clsl_5 A A103 := SA_trans (cA_c174) (SA_gluc (ι := oz_D5clsl_9) oz_D5cls_28 hA103 eA103 (by decide +kernel)) (any_subA (lₚ := [3]) (by decide +kernel))
                      have mA103 := SAm_of cA103 oz_D5cls_16
                      have cD103 : SD oz_D5clsl_5 D D103 := SD_trans (cD_4) (SD_gluc (ι := oz_D5clsl_9) oz_D5cls_28 hD103 eD103 (by decide +kernel)) (any_subA (lₚ := [3]) (by decide +kernel))
                      have mD103 := SDm_of cD103 oz_D5cls_16
                      have cN103 : SD oz_D5clsl_5 N N103 := SD_trans (cN_4) (SD_gluc (ι := oz_D5clsl_9) oz_D5cls_28 hN103 eN103 (by decide +kernel)) (any_subA (lₚ := [3]) (by decide +kernel))
                      have mN103 := SDm_of cN103 oz_D5cls_16
                      have pf103_2_0 : F103 2 0 = (D103 3 : Int) := (eF103 2 0).trans (pm103_3.trans (congrArg (fun q : Nat => (q : Int)) (eD103 3).symm))
                      have r104 : (0 : Int) ≤ m103_3 ∧ m103_3 ≤ 1000000 := nleE (H.nle 3 (ltn len_V228_oz_D5cls rfl)) (show (N103 3 : Int) = m103_3 from (congrArg (fun q : Nat => (q : Int)) (eN103 3)).trans em103_3)
                      have r105 : (-2147483648 : Int) ≤ y103_0_12 ∧ y103_0_12 ≤ 2147483647 := rngE (show (-2147483648 : Int) ≤ F103 0 12 ∧ F103 0 12 ≤ 2147483647 from H.krg 0 12 (ltn len_V228_oz_D5cls rfl)) (show F103 0 12 = y103_0_12 from ((eF103 0 12).trans ey103_0_12))
                      have r106 : (-2147483648 : Int) ≤ y103_2_1 ∧ y103_2_1 ≤ 2147483647 := rngE (show (-2147483648 : Int) ≤ F103 2 1 ∧ F103 2 1 ≤ 2147483647 from H.krg 2 1 (ltn len_V228_oz_D5cls rfl)) (show F103 2 1 = y103_2_1 from ((eF103 2 1).trans ey103_2_1))
                      have r107 : (0 : Int) ≤ y103_2_2 ∧ y103_2_2 ≤ 1 := rngE (show (0 : Int) ≤ F103 2 2 ∧ F103 2 2 ≤ 1 from H.krg 2 2 (ltn len_V228_oz_D5cls rfl)) (show F103 2 2 = y103_2_2 from ((eF103 2 2).trans ey103_2_2))
                      have hp4 := pz103_4
                      have hp5 := pz103_5
                      have hp6 := pz103_6
                      refine Ew_of (pcₚ := 254) (fun _ => x_goto rfl rfl) ?_
                      try have hTBP := pz95_6
                      try have hSMB := pz95_8
                      try rw [← hqrb, ← hqcn] at hSMB
                      try rw [← hqrb, ← hqcn] at hWx
                      try rw [← hqrb, ← hqcn] at hCX
                      try rw [← hqrb, ← hqcn] at hTBP
                      refine Ew_of (pcₚ := 256) (fun _ => x_istore rfl) ?_
                      refine Ew_of (pcₚ := 258) (fun _ => x_iload rfl rk_s) ?_
                      refine w_ifeq (t := 275) rfl rfl (show inr (z103) from pz103_0) (fun b108 => ?_) (fun b108 => ?_)
                      · have hnx : ITO (TRs (ub8 ((w1))) ((u0_5)) ((u0_7)) ((u0_8)) ((u0_9)) ((u0_10)) (sc ((w5)) 0 ((u4_1)))) (TRe (ub8 ((w1))) ((u0_5)) ((u0_7)) ((u0_8)) ((u0_9)) ((u0_10)) (sc ((w5)) 0 ((u4_1)))) ((a1), sc ((w3)) 0 ((u2_1))) (((x4_2 + 4)) + (z19) + (4), sc ((w103_3)) 0 ((y103_2_1))) := by first | (have hp6_ := hp6; exact ITO_s j4_x (TRs_p (w := hwn) (m := (z19)) (by omega) hwn_ (by omega) (by omega) (by omega) (by omega) (by omega) hk174 (by omega) (by omega) (a := ((x4_2 + 4))) (b := ((x4_2 + 4)) + (z19)) (by omega) (by omega) (by rw [hCX]; try rw [hqrb, hqcn]; exact hp6 (by omega)))) | (obtain ⟨pq, Vq, hV1, hV2⟩ := hTBP; have hV0 := hV1; rw [show (z95 : Int) = 0 by omega] at hV0; exact ITO_s j4_x (TRs_b (w := hwn) (m := (z19)) (pl := pq) (X := sc ((w103_3)) (qcn) ((y103_2_1))) (by omega) hwn_ (by omega) (by omega) (by omega) (by omega) (by omega) hk174 (by omega) (by omega) (by omega) hWx (by omega) hV0 (by rcases hV2 with ⟨x, y⟩ | ⟨x, y, z⟩; (omega); ((rw [← z, List.append_assoc]; first | (rw [sc_nil (f := qrb) (a := qcn) (b := qcn) (Int.le_refl _), List.nil_append]; done) | rw [sc_cat (f := (w103_3)) (b := qcn) (by omega) (by omega), sc_same (g := qrb) (fun i u v => hSMB i (by omega) v)]))) (by rw [hCX, sc_cat (f := (w103_3)) (b := qcn) (by omega) (by omega), sc_same (g := qrb) (fun i u v => hSMB i u v)])))
                        refine Ew_of (pcₚ := 277) (fun _ => x_iload rfl (rk_o (rk_o (rk_o (lc174_6) rfl rfl) rfl rfl) rfl rfl)) ?_
                        refine Ew_of (pcₚ := 279) (fun _ => x_iload rfl (rk_o (rk_o (rk_o (lc174_5) rfl rfl) rfl rfl) rfl rfl)) ?_
                        refine w_iadd rfl ?_
                        refine Ew_of (pcₚ := 282) (fun _ => x_iload rfl (rk_o (rk_o (rk_o (lc174_7) rfl rfl) rfl rfl) rfl rfl)) ?_
                        refine w_iadd rfl ?_
                        refine Ew_of (pcₚ := 284) (fun _ => x_istore_n rfl) ?_
                        refine Ew_of (pcₚ := 287) (fun _ => x_iinc (len := 3) rfl (rk_o (rk_o (rk_o (rk_o (lc174_3) rfl rfl) rfl rfl) rfl rfl) rfl rfl)) ?_
                        refine Ew_of (pcₚ := 4) (fun _ => x_goto rfl rfl) ?_
                        exact ih4 _ (msE hm4 q_77 (q_890 b16)) _ _ _ _ _ _ _ _ ((((x4_2 + 4) + z19) + 4)) ((x4_3 + 1)) ((rk_o (rk_o (rk_o (rk_o (rk_o (lc174_0) rfl rfl) rfl rfl) rfl rfl) rfl rfl) rfl rfl).trans (congrArg (fun q : Nat => some (Value.ref q)) (((show D103 0 = D_4 0 from (eD103 0).trans (hD103 0 rfl)))).symm)) (rk_o (rk_s) rfl rfl) (rk_s) H O (SD_trans (hD_4) (SD_gluc (ι := oz_D5clsl_9) oz_D5cls_28 hD103 eD103 (by decide +kernel)) (any_subA (lₚ := [3]) (by decide +kernel))) (SD_trans (hN_4) (SD_gluc (ι := oz_D5clsl_9) oz_D5cls_28 hN103 eN103 (by decide +kernel)) (any_subA (lₚ := [3]) (by decide +kernel))) (SF_trans (SF_trans (SF_trans (hS_4) (SF_gluc (ι := oz_D5clsl_2) oz_D5cls_8 hS18 eF18 (by decide +kernel)) (any_sub (lₚ := []) (by decide +kernel))) hS_c174 (any_sub (by decide +kernel))) (SF_gluc (ι := oz_D5clsl_9) oz_D5cls_28 hS103 eF103 (by decide +kernel)) (any_sub (lₚ := [(0, 12), (2, 0), (2, 1), (2, 2)]) (by decide +kernel))) (SA_trans (SA_trans (SA_trans (hA_4) (SA_gluc (ι := oz_D5clsl_2) oz_D5cls_8 hA18 eA18 (by decide +kernel)) (any_subA (lₚ := []) (by decide +kernel))) hA_c174 (any_subA (by decide +kernel))) (SA_gluc (ι := oz_D5clsl_9) oz_D5cls_28 hA103 eA103 (by decide +kernel)) (any_subA (lₚ := [3]) (by decide +kernel))) (pf103_2_0) (m103_3) ((congrArg (fun q : Nat => (q : Int)) (eN103 3)).trans em103_3) (y103_2_1) (((eF103 2 1).trans ey103_2_1)) (y103_2_2) (((eF103 2 2).trans ey103_2_2)) (w103_3) ((eA103 3).trans ew103_3) (show inr ((((x4_2 + 4) + z19) + 4)) from q_3353 b72 h1 hm31 j4_0) (show inr ((x4_3 + 1)) from q_3335 b16 h1 j4_1) (show (a1) ≤ ((x4_3 + 1)) from q_161 j4_2) (show ((x4_3 + 1)) ≤ (a1) ∨ ((x4_3 + 1)) ≤ (((u0_5) + 1)) from q_3135 b16) (show (a1) ≤ ((((x4_2 + 4) + z19) + 4)) ∧ ((((x4_2 + 4) + z19) + 4)) ≤ (u0_5) from q_3352 b72 hm31 j4_4) (show 0 ≤ (y103_2_1) ∧ (y103_2_1) ≤ (m103_3) ∧ (m103_3) ≤ 65536 from pz103_2) (show (u2_1) ≤ (y103_2_1) ∧ (y103_2_1) ≤ (u0_7) from q_3342 hlim j4_6 pz103_3) (show (y103_2_2) = 0 from pz103_4) (show ((x4_3 + 1)) ≤ ((((x4_2 + 4) + z19) + 4)) from q_3351 hm31 j4_8) (hnx) rfl
                      · refine Ew_of (pcₚ := 263) (fun _ => x_iload rfl rk_s) ?_
                        refine Ew_of (pcₚ := 264) (fun _ => x_iconst rfl) ?_
                        refine w_icmpne (t := 272) rfl rfl (show inr (z103) from pz103_0) (show inr (1) from q_135) (fun b109 => ?_) (fun b109 => ?_)
                        · refine Ew_of (pcₚ := 274) (fun _ => x_iload rfl rk_s) ?_
                          have : IMP (((z103) : Int) = 0) (TRB (ub8 ((w1))) ((u0_5)) ((u0_7)) ((u0_8)) ((u0_9)) ((u0_10)) (sc ((w5)) 0 ((u4_1))) ((a1)) (sc ((w3)) 0 ((u2_1))) (0, 0, (y103_0_12), sc ((w103_3)) 0 ((y103_2_1)))) := fun z => absurd z (by omega)
                          have : IMP (((z103) : Int) ≠ 0) (TRB (ub8 ((w1))) ((u0_5)) ((u0_7)) ((u0_8)) ((u0_9)) ((u0_10)) (sc ((w5)) 0 ((u4_1))) ((a1)) (sc ((w3)) 0 ((u2_1))) (((z103) : Int), (y103_0_12), 0, [])) := fun _ => ITO_e j4_x (TRe_f (w := hwn) (m := (z19)) (by omega) hwn_ (by omega) (by omega) (by first | (obtain ⟨pq, Vq, hV1, hV2⟩ := hTBP; have hpq : pq = (y103_0_12) := (by rcases hV2 with ⟨x, y⟩ | ⟨x, y, z⟩; (exact y.symm); (omega)); have hV3 := hV1; rw [hpq] at hV3; exact TRf_b (by omega) (by omega) hk174 (by omega) (by omega) (by omega) hWx (by omega) hV3 (by omega) (by omega)) | exact TRf_3 (by omega) (by omega) hk174 (by omega) (by omega) (by omega) (by omega)))
                          exact w_ireturn rfl (k (z103) _ _ _ _ _ _ _ H O (cD103) (cN103) (cF103) (cA103) (pf103_2_0) (m103_3) ((congrArg (fun q : Nat => (q : Int)) (eN103 3)).trans em103_3) (y103_0_12) (((eF103 0 12).trans ey103_0_12)) (y103_2_1) (((eF103 2 1).trans ey103_2_1)) (y103_2_2) (((eF103 2 2).trans ey103_2_2)) (w103_3) ((eA103 3).trans ew103_3) (show inr (z103) from pz103_0) (show 0 ≤ (z103) ∧ (z103) ≤ 9 from q_3337 pz103_1) (show 0 ≤ (y103_2_1) ∧ (y103_2_1) ≤ (m103_3) ∧ (m103_3) ≤ 65536 from pz103_2) (show (u2_1) ≤ (y103_2_1) ∧ (y103_2_1) ≤ (u0_7) from q_3342 hlim j4_6 pz103_3) (show (z103) = 0 → a1 + 4 ≤ (y103_0_12) ∧ (y103_0_12) ≤ (u0_5) by omega) (show (y103_2_2) = 0 from pz103_4) (show IMP ((z103) = 0) (TRB (ub8 ((w1))) ((u0_5)) ((u0_7)) ((u0_8)) ((u0_9)) ((u0_10)) (sc ((w5)) 0 ((u4_1))) (a1) (sc ((w3)) 0 ((u2_1))) (0, 0, (y103_0_12), sc ((w103_3)) 0 ((y103_2_1)))) by assumption) (show IMP ((z103) ≠ 0) (TRB (ub8 ((w1))) ((u0_5)) ((u0_7)) ((u0_8)) ((u0_9)) ((u0_10)) (sc ((w5)) 0 ((u4_1))) (a1) (sc ((w3)) 0 ((u2_1))) ((z103), (y103_0_12), 0, [])) by assumption))
                        · refine Ew_of (pcₚ := 269) (fun _ => x_bipush (z := 9) rfl (by decide)) ?_
                          refine Ew_of (pcₚ := 274) (fun _ => x_goto rfl rfl) ?_
                          have : IMP (((9) : Int) = 0) (TRB (ub8 ((w1))) ((u0_5)) ((u0_7)) ((u0_8)) ((u0_9)) ((u0_10)) (sc ((w5)) 0 ((u4_1))) ((a1)) (sc ((w3)) 0 ((u2_1))) (0, 0, (y103_0_12), sc ((w103_3)) 0 ((y103_2_1)))) := fun z => absurd z (by omega)
                          have : IMP (((9) : Int) ≠ 0) (TRB (ub8 ((w1))) ((u0_5)) ((u0_7)) ((u0_8)) ((u0_9)) ((u0_10)) (sc ((w5)) 0 ((u4_1))) ((a1)) (sc ((w3)) 0 ((u2_1))) (((9) : Int), (y103_0_12), 0, [])) := fun _ => ITO_e j4_x (TRe_f (w := hwn) (m := (z19)) (by omega) hwn_ (by omega) (by omega) (by first | (obtain ⟨pq, Vq, hV1, hV2⟩ := hTBP; have hpq : pq = (y103_0_12) := (by rcases hV2 with ⟨x, y⟩ | ⟨x, y, z⟩; (exact y.symm); (omega)); have hV3 := hV1; rw [hpq] at hV3; exact TRf_b (by omega) (by omega) hk174 (by omega) (by omega) (by omega) hWx (by omega) hV3 (by omega) (by omega)) | exact TRf_3 (by omega) (by omega) hk174 (by omega) (by omega) (by omega) (by omega)))
                          exact w_ireturn rfl (k (9) _ _ _ _ _ _ _ H O (cD103) (cN103) (cF103) (cA103) (pf103_2_0) (m103_3) ((congrArg (fun q : Nat => (q : Int)) (eN103 3)).trans em103_3) (y103_0_12) (((eF103 0 12).trans ey103_0_12)) (y103_2_1) (((eF103 2 1).trans ey103_2_1)) (y103_2_2) (((eF103 2 2).trans ey103_2_2)) (w103_3) ((eA103 3).trans ew103_3) (show inr (9) from q_291) (show 0 ≤ (9) ∧ (9) ≤ 9 by first | exact q_3339 | omega) (show 0 ≤ (y103_2_1) ∧ (y103_2_1) ≤ (m103_3) ∧ (m103_3) ≤ 65536 from pz103_2) (show (u2_1) ≤ (y103_2_1) ∧ (y103_2_1) ≤ (u0_7) from q_3342 hlim j4_6 pz103_3) (show (9) = 0 → a1 + 4 ≤ (y103_0_12) ∧ (y103_0_12) ≤ (u0_5) by first | exact q_3338 h0 h1 r105 | omega) (show (y103_2_2) = 0 from pz103_4) (show IMP ((9) = 0) (TRB (ub8 ((w1))) ((u0_5)) ((u0_7)) ((u0_8)) ((u0_9)) ((u0_10)) (sc ((w5)) 0 ((u4_1))) (a1) (sc ((w3)) 0 ((u2_1))) (0, 0, (y103_0_12), sc ((w103_3)) 0 ((y103_2_1)))) by assumption) (show IMP ((9) ≠ 0) (TRB (ub8 ((w1))) ((u0_5)) ((u0_7)) ((u0_8)) ((u0_9)) ((u0_10)) (sc ((w5)) 0 ((u4_1))) (a1) (sc ((w3)) 0 ((u2_1))) ((9), (y103_0_12), 0, [])) by assumption))
                refine Ew_of (pcₚ := 129) (fun _ => x_iload rfl rk_s) ?_
                refine w_ifle (t := 174) rfl rfl (show inr (4) from q_216) (fun b110 => ?_) (fun b110 => ?_)
                · have : TRk (ub8 ((w1))) (q2) ((z19)) (TRss ((u0_8))) := by first | exact .inl (by omega) | exact TRk_y (q := ((x4_2 + 4)) + (z19)) (by omega) hx8 hy8 (by omega)
                  exact hc174  _ _ _ _  (rk_o (rk_o (rk_o (rk_o (l4_0) rfl rfl) rfl rfl) rfl rfl) rfl rfl) (rk_o (rk_o (rk_o (rk_o (l4_3) rfl rfl) rfl rfl) rfl rfl) rfl rfl) (rk_o (rk_o (rk_o (rk_s) rfl rfl) rfl rfl) rfl rfl) (rk_o (rk_o (rk_s) rfl rfl) rfl rfl) (rk_o (rk_s) rfl rfl) (rk_s) H O (SF_refl) (SA_refl)     (show TRk (ub8 ((w1))) (q2) ((z19)) (TRss ((u0_8))) by assumption)
                · refine Ew_of (pcₚ := 133) (fun _ => x_aload_n rfl (rk_o (rk_o (rk_o (rk_o (l4_0) rfl rfl) rfl rfl) rfl rfl) rfl rfl)) ?_
                  refine v_g H (o := 0) (v := .ref (D_4 1)) rfl rfl rfl rfl rfl (vrf ((mF18 0 4 rfl).trans ((pf1).trans (congrArg (fun q : Nat => (q : Int)) (mD_4 1 rfl).symm)))) ?_
                  refine Ew_of (pcₚ := 138) (fun _ => x_iload rfl (rk_o (rk_s) rfl rfl)) ?_
                  refine Ew_of (pcₚ := 140) (fun _ => x_iload rfl (rk_o (rk_o (rk_s) rfl rfl) rfl rfl)) ?_
                  refine w_iadd rfl ?_
                  refine w_stat25 rfl rfl (by rfl) (C41_Br (D := puc 1 D_4) (N := puc 1 N_4) (HW_subc H oz_D5cls_19 oz_D5cls_8) (n1) ((congrArg (fun q : Nat => (q : Int)) (mN_4 1 rfl)).trans (en1)) (w1) ((funext (mA18 1 rfl)).trans (ew1)) (show inr (((x4_2 + 4) + z19)) from q_3350 b72 h1 hm31 j4_0) (show 0 ≤ (((x4_2 + 4) + z19)) ∧ (((x4_2 + 4) + z19)) + 4 ≤ (n1) from q_3355 b72 h1 h2 hm31 j4_4) (fun z111 σ111 F111ₚ A111ₚ Hₚ Oₚ hS111 hA111 pz111_0 pz111_1 => ⟨rfl, ?_⟩))
                  refine v_backc (c := c_4) (s := s_4) H oz_D5cls_19 oz_D5cls_8 Hₚ Oₚ (fun F111 A111 H Oₚ eF111 eA111 => ?_)
                  have O := OUT_trans O Oₚ
                  -- PackHouse.word
                  have cF111 : SF oz_D5clsl_7 F F111 := SF_trans (cF18) (SF_gluc (ι := oz_D5clsl_2) oz_D5cls_8 hS111 eF111 (by decide +kernel)) (any_sub (lₚ := []) (by decide +kernel))
                  have mF111 := SFm_of cF111 oz_D5cls_26
                  have cA111 : SA oz_D5clsl_5 A A111 := SA_trans (cA18) (SA_gluc (ι := oz_D5clsl_2) oz_D5cls_8 hA111 eA111 (by decide +kernel)) (any_subA (lₚ := []) (by decide +kernel))
                  have mA111 := SAm_of cA111 oz_D5cls_16
                  have hx8 := wdm pz111_1
                  refine Ew_of (pcₚ := 145) (fun _ => x_aload_n rfl (rk_o (rk_o (rk_o (rk_o (l4_0) rfl rfl) rfl rfl) rfl rfl) rfl rfl)) ?_
                  refine v_g H (o := 0) (v := .ref (D_4 1)) rfl rfl rfl rfl rfl (vrf ((mF111 0 4 rfl).trans ((pf1).trans (congrArg (fun q : Nat => (q : Int)) (mD_4 1 rfl).symm)))) ?_
                  refine Ew_of (pcₚ := 150) (fun _ => x_iload rfl (rk_o (rk_s) rfl rfl)) ?_
                  refine Ew_of (pcₚ := 152) (fun _ => x_iload rfl (rk_o (rk_s) rfl rfl)) ?_
                  refine Ew_of (pcₚ := 154) (fun _ => x_iload rfl (rk_o (rk_o (rk_s) rfl rfl) rfl rfl)) ?_
                  refine w_iadd rfl ?_
                  refine Ew_of (pcₚ := 156) (fun _ => x_iconst rfl) ?_
                  refine w_stat25 rfl rfl (by rfl) (C49_Br (D := puc 1 D_4) (N := puc 1 N_4) (HW_subc H oz_D5cls_24 oz_D5cls_8) (n1) ((congrArg (fun q : Nat => (q : Int)) (mN_4 1 rfl)).trans (en1)) (w1) ((funext (mA111 1 rfl)).trans (ew1)) (show inr ((x4_2 + 4)) from q_3331 b17 h1 j4_0) (show inr (((x4_2 + 4) + z19)) from q_3350 b72 h1 hm31 j4_0) (show inr (0) from q_2) (show 0 ≤ ((x4_2 + 4)) ∧ ((x4_2 + 4)) ≤ (((x4_2 + 4) + z19)) ∧ (((x4_2 + 4) + z19)) ≤ (n1) from q_3356 b72 h1 h2 hm31 j4_4) (fun z112 σ112 F112ₚ A112ₚ Hₚ Oₚ hS112 hA112 pz112_0 pz112_1 => ⟨rfl, ?_⟩))
                  refine v_backc (c := c_4) (s := s_4) H oz_D5cls_24 oz_D5cls_8 Hₚ Oₚ (fun F112 A112 H Oₚ eF112 eA112 => ?_)
                  have O := OUT_trans O Oₚ
                  -- PackHouse.narrowSum
                  have cF112 : SF oz_D5clsl_7 F F112 := SF_trans (cF111) (SF_gluc (ι := oz_D5clsl_2) oz_D5cls_8 hS112 eF112 (by decide +kernel)) (any_sub (lₚ := []) (by decide +kernel))
                  have mF112 := SFm_of cF112 oz_D5cls_26
                  have cA112 : SA oz_D5clsl_5 A A112 := SA_trans (cA111) (SA_gluc (ι := oz_D5clsl_2) oz_D5cls_8 hA112 eA112 (by decide +kernel)) (any_subA (lₚ := []) (by decide +kernel))
                  have mA112 := SAm_of cA112 oz_D5cls_16
                  have hy8 : (z112) % 4294967296 = NSM (ub8 ((w1))) (q2 + 4) ((z19)) 0 % 4294967296 := by have h := pz112_1; rw [NSM_ub (by omega), h, show ((x4_2 + 4)) + (z19) - ((x4_2 + 4)) = (z19) by omega, show ((x4_2 + 4)) = q2 + 4 by omega]
                  have hyi := pz112_0
                  have hxi := pz111_0
                  refine w_icmpeq (t := 174) rfl rfl (show inr (z111) from pz111_0) (show inr (z112) from pz112_0) (fun b113 => ?_) (fun b113 => ?_)
                  · have : TRk (ub8 ((w1))) (q2) ((z19)) (TRss ((u0_8))) := by first | exact .inl (by omega) | exact TRk_y (q := ((x4_2 + 4)) + (z19)) (by omega) hx8 hy8 (by omega)
                    exact hc174  _ _ _ _  (rk_o (rk_o (rk_o (rk_o (l4_0) rfl rfl) rfl rfl) rfl rfl) rfl rfl) (rk_o (rk_o (rk_o (rk_o (l4_3) rfl rfl) rfl rfl) rfl rfl) rfl rfl) (rk_o (rk_o (rk_o (rk_s) rfl rfl) rfl rfl) rfl rfl) (rk_o (rk_o (rk_s) rfl rfl) rfl rfl) (rk_o (rk_s) rfl rfl) (rk_s) H O (SF_trans (SF_trans (SF_refl) (SF_gluc (ι := oz_D5clsl_2) oz_D5cls_8 hS111 eF111 (by decide +kernel)) (any_sub (lₚ := []) (by decide +kernel))) (SF_gluc (ι := oz_D5clsl_2) oz_D5cls_8 hS112 eF112 (by decide +kernel)) (any_sub (lₚ := []) (by decide +kernel))) (SA_trans (SA_trans (SA_refl) (SA_gluc (ι := oz_D5clsl_2) oz_D5cls_8 hA111 eA111 (by decide +kernel)) (any_subA (lₚ := []) (by decide +kernel))) (SA_gluc (ι := oz_D5clsl_2) oz_D5cls_8 hA112 eA112 (by decide +kernel)) (any_subA (lₚ := []) (by decide +kernel)))     (show TRk (ub8 ((w1))) (q2) ((z19)) (TRss ((u0_8))) by assumption)
                  · refine Ew_of (pcₚ := 163) (fun _ => x_aload_n rfl (rk_o (rk_o (rk_o (rk_o (l4_0) rfl rfl) rfl rfl) rfl rfl) rfl rfl)) ?_
                    refine Ew_of (pcₚ := 165) (fun _ => x_bipush (z := 8) rfl (by decide)) ?_
                    refine Ew_of (pcₚ := 167) (fun _ => x_iload rfl (rk_o (rk_s) rfl rfl)) ?_
                    refine Ew_of (pcₚ := 169) (fun _ => x_iload rfl (rk_o (rk_o (rk_s) rfl rfl) rfl rfl)) ?_
                    refine w_iadd rfl ?_
                    have r114 : (-2147483648 : Int) ≤ F_4 0 12 ∧ F_4 0 12 ≤ 2147483647 := rngE (show (-2147483648 : Int) ≤ F112 0 12 ∧ F112 0 12 ≤ 2147483647 from H.krg 0 12 (ltn len_V228_oz_D5cls rfl)) (show F112 0 12 = F_4 0 12 from ((((show F112 0 12 = F111 0 12 from (eF112 0 12))).trans ((show F111 0 12 = F18 0 12 from (eF111 0 12)))).trans ((show F18 0 12 = F_4 0 12 from (eF18 0 12)))))
                    refine v_inv H (o := 0) rfl rfl rfl rfl rfl rfl (by rfl) (C221 (D := puc 0 D_4) (N := puc 0 N_4) (HW_subc H oz_D5cls_25 oz_D5cls_10) (F_4 0 12) (((((show F112 0 12 = F111 0 12 from (eF112 0 12))).trans ((show F111 0 12 = F18 0 12 from (eF111 0 12)))).trans ((show F18 0 12 = F_4 0 12 from (eF18 0 12))))) (show inr (8) from q_141) (show inr (((x4_2 + 4) + z19)) from q_3350 b72 h1 hm31 j4_0) (fun z115 σ115 F115ₚ A115ₚ Hₚ Oₚ hS115 hA115 y115_0_12 ey115_0_12 pz115_0 pz115_1 pz115_2 => ⟨rfl, ?_⟩))
                    refine v_backc (c := c_4) (s := s_4) H oz_D5cls_25 oz_D5cls_10 Hₚ Oₚ (fun F115 A115 H Oₚ eF115 eA115 => ?_)
                    have O := OUT_trans O Oₚ
                    -- Tokens.fail
                    have cF115 : SF oz_D5clsl_7 F F115 := SF_trans (cF112) (SF_gluc (ι := oz_D5clsl_3) oz_D5cls_10 hS115 eF115 (by decide +kernel)) (any_sub (lₚ := [(0, 12)]) (by decide +kernel))
                    have mF115 := SFm_of cF115 oz_D5cls_26
                    have cA115 : SA oz_D5clsl_5 A A115 := SA_trans (cA112) (SA_gluc (ι := oz_D5clsl_3) oz_D5cls_10 hA115 eA115 (by decide +kernel)) (any_subA (lₚ := []) (by decide +kernel))
                    have mA115 := SAm_of cA115 oz_D5cls_16
                    have r116 : (-2147483648 : Int) ≤ y115_0_12 ∧ y115_0_12 ≤ 2147483647 := rngE (show (-2147483648 : Int) ≤ F115 0 12 ∧ F115 0 12 ≤ 2147483647 from H.krg 0 12 (ltn len_V228_oz_D5cls rfl)) (show F115 0 12 = y115_0_12 from ((eF115 0 12).trans ey115_0_12))
                    have : IMP (((z115) : Int) = 0) (TRB (ub8 ((w1))) ((u0_5)) ((u0_7)) ((u0_8)) ((u0_9)) ((u0_10)) (sc ((w5)) 0 ((u4_1))) ((a1)) (sc ((w3)) 0 ((u2_1))) (0, 0, (y115_0_12), sc ((w4_3)) 0 ((y4_2_1)))) := fun z => absurd z (by omega)
                    have : IMP (((z115) : Int) ≠ 0) (TRB (ub8 ((w1))) ((u0_5)) ((u0_7)) ((u0_8)) ((u0_9)) ((u0_10)) (sc ((w5)) 0 ((u4_1))) ((a1)) (sc ((w3)) 0 ((u2_1))) (((z115) : Int), (y115_0_12), 0, [])) := fun _ => ITO_e j4_x (TRe_f (w := hwn) (m := (z19)) (by omega) hwn_ (by omega) (by omega) (TRf_8 (q := ((x4_2 + 4)) + (z19)) (by omega) (by omega) (by omega) (by omega) hx8 hy8 (by omega) (by omega) (by omega)))
                    exact w_ireturn rfl (k (z115) _ _ _ _ _ _ _ H O (cD_4) (cN_4) (cF115) (cA115) (((((((show F115 2 0 = F112 2 0 from (eF115 2 0))).trans ((show F112 2 0 = F111 2 0 from (eF112 2 0)))).trans ((show F111 2 0 = F18 2 0 from (eF111 2 0)))).trans ((show F18 2 0 = F_4 2 0 from (eF18 2 0))))).trans (pm4_3)) (m4_3) (em4_3) (y115_0_12) (((eF115 0 12).trans ey115_0_12)) (y4_2_1) (((((((show F115 2 1 = F112 2 1 from (eF115 2 1))).trans ((show F112 2 1 = F111 2 1 from (eF112 2 1)))).trans ((show F111 2 1 = F18 2 1 from (eF111 2 1)))).trans ((show F18 2 1 = F_4 2 1 from (eF18 2 1)))).trans (ey4_2_1))) (y4_2_2) (((((((show F115 2 2 = F112 2 2 from (eF115 2 2))).trans ((show F112 2 2 = F111 2 2 from (eF112 2 2)))).trans ((show F111 2 2 = F18 2 2 from (eF111 2 2)))).trans ((show F18 2 2 = F_4 2 2 from (eF18 2 2)))).trans (ey4_2_2))) (w4_3) (((show A115 3 = A112 3 from (eA115 3))).trans (((show A112 3 = A111 3 from (eA112 3))).trans (((show A111 3 = A18 3 from (eA111 3))).trans (((show A18 3 = A_4 3 from (eA18 3))).trans (ew4_3))))) (show inr (z115) from pz115_0) (show 0 ≤ (z115) ∧ (z115) ≤ 9 from q_3346 pz115_1) (show 0 ≤ (y4_2_1) ∧ (y4_2_1) ≤ (m4_3) ∧ (m4_3) ≤ 65536 from j4_5) (show (u2_1) ≤ (y4_2_1) ∧ (y4_2_1) ≤ (u0_7) from j4_6) (show (z115) = 0 → a1 + 4 ≤ (y115_0_12) ∧ (y115_0_12) ≤ (u0_5) from q_3357 b72 h0 pz115_1 pz115_2 r116) (show (y4_2_2) = 0 from j4_7) (show IMP ((z115) = 0) (TRB (ub8 ((w1))) ((u0_5)) ((u0_7)) ((u0_8)) ((u0_9)) ((u0_10)) (sc ((w5)) 0 ((u4_1))) (a1) (sc ((w3)) 0 ((u2_1))) (0, 0, (y115_0_12), sc ((w4_3)) 0 ((y4_2_1)))) by assumption) (show IMP ((z115) ≠ 0) (TRB (ub8 ((w1))) ((u0_5)) ((u0_7)) ((u0_8)) ((u0_9)) ((u0_10)) (sc ((w5)) 0 ((u4_1))) (a1) (sc ((w3)) 0 ((u2_1))) ((z115), (y115_0_12), 0, [])) by assumption))
              · refine Ew_of (pcₚ := 118) (fun _ => x_aload_n rfl (rk_o (rk_o (rk_o (rk_o (l4_0) rfl rfl) rfl rfl) rfl rfl) rfl rfl)) ?_
                refine Ew_of (pcₚ := 119) (fun _ => x_iconst rfl) ?_
                refine Ew_of (pcₚ := 120) (fun _ => x_aload_n rfl (rk_o (rk_o (rk_o (rk_o (l4_0) rfl rfl) rfl rfl) rfl rfl) rfl rfl)) ?_
                refine v_g H (o := 0) (v := I (u0_5)) rfl rfl rfl rfl rfl (congrArg (fun z : Int => I z) (((mF18 0 5 rfl).trans (eu0_5)) : F18 0 5 = u0_5)) ?_
                have r117 : (-2147483648 : Int) ≤ F_4 0 12 ∧ F_4 0 12 ≤ 2147483647 := rngE (show (-2147483648 : Int) ≤ F18 0 12 ∧ F18 0 12 ≤ 2147483647 from H.krg 0 12 (ltn len_V228_oz_D5cls rfl)) (show F18 0 12 = F_4 0 12 from ((show F18 0 12 = F_4 0 12 from (eF18 0 12))))
                refine v_inv H (o := 0) rfl rfl rfl rfl rfl rfl (by rfl) (C221 (D := puc 0 D_4) (N := puc 0 N_4) (HW_subc H oz_D5cls_25 oz_D5cls_10) (F_4 0 12) (((show F18 0 12 = F_4 0 12 from (eF18 0 12)))) (show inr (1) from q_135) (show inr (u0_5) from q_38 h1) (fun z118 σ118 F118ₚ A118ₚ Hₚ Oₚ hS118 hA118 y118_0_12 ey118_0_12 pz118_0 pz118_1 pz118_2 => ⟨rfl, ?_⟩))
                refine v_backc (c := c_4) (s := s_4) H oz_D5cls_25 oz_D5cls_10 Hₚ Oₚ (fun F118 A118 H Oₚ eF118 eA118 => ?_)
                have O := OUT_trans O Oₚ
                -- Tokens.fail
                have cF118 : SF oz_D5clsl_7 F F118 := SF_trans (cF18) (SF_gluc (ι := oz_D5clsl_3) oz_D5cls_10 hS118 eF118 (by decide +kernel)) (any_sub (lₚ := [(0, 12)]) (by decide +kernel))
                have mF118 := SFm_of cF118 oz_D5cls_26
                have cA118 : SA oz_D5clsl_5 A A118 := SA_trans (cA18) (SA_gluc (ι := oz_D5clsl_3) oz_D5cls_10 hA118 eA118 (by decide +kernel)) (any_subA (lₚ := []) (by decide +kernel))
                have mA118 := SAm_of cA118 oz_D5cls_16
                have r119 : (-2147483648 : Int) ≤ y118_0_12 ∧ y118_0_12 ≤ 2147483647 := rngE (show (-2147483648 : Int) ≤ F118 0 12 ∧ F118 0 12 ≤ 2147483647 from H.krg 0 12 (ltn len_V228_oz_D5cls rfl)) (show F118 0 12 = y118_0_12 from ((eF118 0 12).trans ey118_0_12))
                have : IMP (((z118) : Int) = 0) (TRB (ub8 ((w1))) ((u0_5)) ((u0_7)) ((u0_8)) ((u0_9)) ((u0_10)) (sc ((w5)) 0 ((u4_1))) ((a1)) (sc ((w3)) 0 ((u2_1))) (0, 0, (y118_0_12), sc ((w4_3)) 0 ((y4_2_1)))) := fun z => absurd z (by omega)
                have : IMP (((z118) : Int) ≠ 0) (TRB (ub8 ((w1))) ((u0_5)) ((u0_7)) ((u0_8)) ((u0_9)) ((u0_10)) (sc ((w5)) 0 ((u4_1))) ((a1)) (sc ((w3)) 0 ((u2_1))) (((z118) : Int), (y118_0_12), 0, [])) := fun _ => ITO_e j4_x (TRe_f (w := hwn) (m := (z19)) (by omega) hwn_ (by omega) (by omega) (TRf_1 (by omega) (by omega) (by omega) (by omega)))
                exact w_ireturn rfl (k (z118) _ _ _ _ _ _ _ H O (cD_4) (cN_4) (cF118) (cA118) (((((show F118 2 0 = F18 2 0 from (eF118 2 0))).trans ((show F18 2 0 = F_4 2 0 from (eF18 2 0))))).trans (pm4_3)) (m4_3) (em4_3) (y118_0_12) (((eF118 0 12).trans ey118_0_12)) (y4_2_1) (((((show F118 2 1 = F18 2 1 from (eF118 2 1))).trans ((show F18 2 1 = F_4 2 1 from (eF18 2 1)))).trans (ey4_2_1))) (y4_2_2) (((((show F118 2 2 = F18 2 2 from (eF118 2 2))).trans ((show F18 2 2 = F_4 2 2 from (eF18 2 2)))).trans (ey4_2_2))) (w4_3) (((show A118 3 = A18 3 from (eA118 3))).trans (((show A18 3 = A_4 3 from (eA18 3))).trans (ew4_3))) (show inr (z118) from pz118_0) (show 0 ≤ (z118) ∧ (z118) ≤ 9 from q_3348 pz118_1) (show 0 ≤ (y4_2_1) ∧ (y4_2_1) ≤ (m4_3) ∧ (m4_3) ≤ 65536 from j4_5) (show (u2_1) ≤ (y4_2_1) ∧ (y4_2_1) ≤ (u0_7) from j4_6) (show (z118) = 0 → a1 + 4 ≤ (y118_0_12) ∧ (y118_0_12) ≤ (u0_5) from q_3347 h2 pz118_1 pz118_2) (show (y4_2_2) = 0 from j4_7) (show IMP ((z118) = 0) (TRB (ub8 ((w1))) ((u0_5)) ((u0_7)) ((u0_8)) ((u0_9)) ((u0_10)) (sc ((w5)) 0 ((u4_1))) (a1) (sc ((w3)) 0 ((u2_1))) (0, 0, (y118_0_12), sc ((w4_3)) 0 ((y4_2_1)))) by assumption) (show IMP ((z118) ≠ 0) (TRB (ub8 ((w1))) ((u0_5)) ((u0_7)) ((u0_8)) ((u0_9)) ((u0_10)) (sc ((w5)) 0 ((u4_1))) (a1) (sc ((w3)) 0 ((u2_1))) ((z118), (y118_0_12), 0, [])) by assumption))
          · refine Ew_of (pcₚ := 73) (fun _ => x_aload_n rfl (rk_o (rk_o (l4_0) rfl rfl) rfl rfl)) ?_
            refine Ew_of (pcₚ := 75) (fun _ => x_bipush (z := 7) rfl (by decide)) ?_
            refine Ew_of (pcₚ := 76) (fun _ => x_iload_n rfl (rk_o (rk_o (l4_2) rfl rfl) rfl rfl)) ?_
            have r120 : (-2147483648 : Int) ≤ F_4 0 12 ∧ F_4 0 12 ≤ 2147483647 := rngE (show (-2147483648 : Int) ≤ F18 0 12 ∧ F18 0 12 ≤ 2147483647 from H.krg 0 12 (ltn len_V228_oz_D5cls rfl)) (show F18 0 12 = F_4 0 12 from ((show F18 0 12 = F_4 0 12 from (eF18 0 12))))
            refine v_inv H (o := 0) rfl rfl rfl rfl rfl rfl (by rfl) (C221 (D := puc 0 D_4) (N := puc 0 N_4) (HW_subc H oz_D5cls_25 oz_D5cls_10) (F_4 0 12) (((show F18 0 12 = F_4 0 12 from (eF18 0 12)))) (show inr (7) from q_597) (show inr (x4_2) from j4_0) (fun z121 σ121 F121ₚ A121ₚ Hₚ Oₚ hS121 hA121 y121_0_12 ey121_0_12 pz121_0 pz121_1 pz121_2 => ⟨rfl, ?_⟩))
            refine v_backc (c := c_4) (s := s_4) H oz_D5cls_25 oz_D5cls_10 Hₚ Oₚ (fun F121 A121 H Oₚ eF121 eA121 => ?_)
            have O := OUT_trans O Oₚ
            -- Tokens.fail
            have cF121 : SF oz_D5clsl_7 F F121 := SF_trans (cF18) (SF_gluc (ι := oz_D5clsl_3) oz_D5cls_10 hS121 eF121 (by decide +kernel)) (any_sub (lₚ := [(0, 12)]) (by decide +kernel))
            have mF121 := SFm_of cF121 oz_D5cls_26
            have cA121 : SA oz_D5clsl_5 A A121 := SA_trans (cA18) (SA_gluc (ι := oz_D5clsl_3) oz_D5cls_10 hA121 eA121 (by decide +kernel)) (any_subA (lₚ := []) (by decide +kernel))
            have mA121 := SAm_of cA121 oz_D5cls_16
            have r122 : (-2147483648 : Int) ≤ y121_0_12 ∧ y121_0_12 ≤ 2147483647 := rngE (show (-2147483648 : Int) ≤ F121 0 12 ∧ F121 0 12 ≤ 2147483647 from H.krg 0 12 (ltn len_V228_oz_D5cls rfl)) (show F121 0 12 = y121_0_12 from ((eF121 0 12).trans ey121_0_12))
            have : IMP (((z121) : Int) = 0) (TRB (ub8 ((w1))) ((u0_5)) ((u0_7)) ((u0_8)) ((u0_9)) ((u0_10)) (sc ((w5)) 0 ((u4_1))) ((a1)) (sc ((w3)) 0 ((u2_1))) (0, 0, (y121_0_12), sc ((w4_3)) 0 ((y4_2_1)))) := fun z => absurd z (by omega)
            have : IMP (((z121) : Int) ≠ 0) (TRB (ub8 ((w1))) ((u0_5)) ((u0_7)) ((u0_8)) ((u0_9)) ((u0_10)) (sc ((w5)) 0 ((u4_1))) ((a1)) (sc ((w3)) 0 ((u2_1))) (((z121) : Int), (y121_0_12), 0, [])) := fun _ => ITO_e j4_x (TRe_f (w := hwn) (m := (z19)) (by omega) hwn_ (by omega) (by omega) (TRf_7 (by omega) (by omega) (by omega)))
            exact w_ireturn rfl (k (z121) _ _ _ _ _ _ _ H O (cD_4) (cN_4) (cF121) (cA121) (((((show F121 2 0 = F18 2 0 from (eF121 2 0))).trans ((show F18 2 0 = F_4 2 0 from (eF18 2 0))))).trans (pm4_3)) (m4_3) (em4_3) (y121_0_12) (((eF121 0 12).trans ey121_0_12)) (y4_2_1) (((((show F121 2 1 = F18 2 1 from (eF121 2 1))).trans ((show F18 2 1 = F_4 2 1 from (eF18 2 1)))).trans (ey4_2_1))) (y4_2_2) (((((show F121 2 2 = F18 2 2 from (eF121 2 2))).trans ((show F18 2 2 = F_4 2 2 from (eF18 2 2)))).trans (ey4_2_2))) (w4_3) (((show A121 3 = A18 3 from (eA121 3))).trans (((show A18 3 = A_4 3 from (eA18 3))).trans (ew4_3))) (show inr (z121) from pz121_0) (show 0 ≤ (z121) ∧ (z121) ≤ 9 from q_3359 pz121_1) (show 0 ≤ (y4_2_1) ∧ (y4_2_1) ≤ (m4_3) ∧ (m4_3) ≤ 65536 from j4_5) (show (u2_1) ≤ (y4_2_1) ∧ (y4_2_1) ≤ (u0_7) from j4_6) (show (z121) = 0 → a1 + 4 ≤ (y121_0_12) ∧ (y121_0_12) ≤ (u0_5) from q_3358 b17 j4_4 pz121_1 pz121_2) (show (y4_2_2) = 0 from j4_7) (show IMP ((z121) = 0) (TRB (ub8 ((w1))) ((u0_5)) ((u0_7)) ((u0_8)) ((u0_9)) ((u0_10)) (sc ((w5)) 0 ((u4_1))) (a1) (sc ((w3)) 0 ((u2_1))) (0, 0, (y121_0_12), sc ((w4_3)) 0 ((y4_2_1)))) by assumption) (show IMP ((z121) ≠ 0) (TRB (ub8 ((w1))) ((u0_5)) ((u0_7)) ((u0_8)) ((u0_9)) ((u0_10)) (sc ((w5)) 0 ((u4_1))) (a1) (sc ((w3)) 0 ((u2_1))) ((z121), (y121_0_12), 0, [])) by assumption))
        · refine Ew_of (pcₚ := 55) (fun _ => x_aload_n rfl (rk_o (rk_o (l4_0) rfl rfl) rfl rfl)) ?_
          refine Ew_of (pcₚ := 56) (fun _ => x_iconst rfl) ?_
          refine Ew_of (pcₚ := 57) (fun _ => x_iload_n rfl (rk_o (rk_o (l4_2) rfl rfl) rfl rfl)) ?_
          refine Ew_of (pcₚ := 58) (fun _ => x_iconst rfl) ?_
          refine w_iadd rfl ?_
          have r123 : (-2147483648 : Int) ≤ F_4 0 12 ∧ F_4 0 12 ≤ 2147483647 := rngE (show (-2147483648 : Int) ≤ F18 0 12 ∧ F18 0 12 ≤ 2147483647 from H.krg 0 12 (ltn len_V228_oz_D5cls rfl)) (show F18 0 12 = F_4 0 12 from ((show F18 0 12 = F_4 0 12 from (eF18 0 12))))
          refine v_inv H (o := 0) rfl rfl rfl rfl rfl rfl (by rfl) (C221 (D := puc 0 D_4) (N := puc 0 N_4) (HW_subc H oz_D5cls_25 oz_D5cls_10) (F_4 0 12) (((show F18 0 12 = F_4 0 12 from (eF18 0 12)))) (show inr (0) from q_2) (show inr ((x4_2 + 4)) from q_3331 b17 h1 j4_0) (fun z124 σ124 F124ₚ A124ₚ Hₚ Oₚ hS124 hA124 y124_0_12 ey124_0_12 pz124_0 pz124_1 pz124_2 => ⟨rfl, ?_⟩))
          refine v_backc (c := c_4) (s := s_4) H oz_D5cls_25 oz_D5cls_10 Hₚ Oₚ (fun F124 A124 H Oₚ eF124 eA124 => ?_)
          have O := OUT_trans O Oₚ
          -- Tokens.fail
          have cF124 : SF oz_D5clsl_7 F F124 := SF_trans (cF18) (SF_gluc (ι := oz_D5clsl_3) oz_D5cls_10 hS124 eF124 (by decide +kernel)) (any_sub (lₚ := [(0, 12)]) (by decide +kernel))
          have mF124 := SFm_of cF124 oz_D5cls_26
          have cA124 : SA oz_D5clsl_5 A A124 := SA_trans (cA18) (SA_gluc (ι := oz_D5clsl_3) oz_D5cls_10 hA124 eA124 (by decide +kernel)) (any_subA (lₚ := []) (by decide +kernel))
          have mA124 := SAm_of cA124 oz_D5cls_16
          have r125 : (-2147483648 : Int) ≤ y124_0_12 ∧ y124_0_12 ≤ 2147483647 := rngE (show (-2147483648 : Int) ≤ F124 0 12 ∧ F124 0 12 ≤ 2147483647 from H.krg 0 12 (ltn len_V228_oz_D5cls rfl)) (show F124 0 12 = y124_0_12 from ((eF124 0 12).trans ey124_0_12))
          have : IMP ((z124) = 0) (TRB (ub8 ((w1))) ((u0_5)) ((u0_7)) ((u0_8)) ((u0_9)) ((u0_10)) (sc ((w5)) 0 ((u4_1))) ((a1)) (sc ((w3)) 0 ((u2_1))) (0, 0, (y124_0_12), sc ((w4_3)) 0 ((y4_2_1)))) := fun _ => by have h := ITO_e j4_x (TRe_0 (w := hwn) (by omega) hwn_ (by omega) (show (y124_0_12) = _ by omega)); rw [hCX] at h; exact h
          have : IMP ((z124) ≠ 0) (TRB (ub8 ((w1))) ((u0_5)) ((u0_7)) ((u0_8)) ((u0_9)) ((u0_10)) (sc ((w5)) 0 ((u4_1))) ((a1)) (sc ((w3)) 0 ((u2_1))) ((z124), (y124_0_12), 0, [])) := fun z => absurd (by omega) z
          exact w_ireturn rfl (k (z124) _ _ _ _ _ _ _ H O (cD_4) (cN_4) (cF124) (cA124) (((((show F124 2 0 = F18 2 0 from (eF124 2 0))).trans ((show F18 2 0 = F_4 2 0 from (eF18 2 0))))).trans (pm4_3)) (m4_3) (em4_3) (y124_0_12) (((eF124 0 12).trans ey124_0_12)) (y4_2_1) (((((show F124 2 1 = F18 2 1 from (eF124 2 1))).trans ((show F18 2 1 = F_4 2 1 from (eF18 2 1)))).trans (ey4_2_1))) (y4_2_2) (((((show F124 2 2 = F18 2 2 from (eF124 2 2))).trans ((show F18 2 2 = F_4 2 2 from (eF18 2 2)))).trans (ey4_2_2))) (w4_3) (((show A124 3 = A18 3 from (eA124 3))).trans (((show A18 3 = A_4 3 from (eA18 3))).trans (ew4_3))) (show inr (z124) from pz124_0) (show 0 ≤ (z124) ∧ (z124) ≤ 9 from q_3361 pz124_1) (show 0 ≤ (y4_2_1) ∧ (y4_2_1) ≤ (m4_3) ∧ (m4_3) ≤ 65536 from j4_5) (show (u2_1) ≤ (y4_2_1) ∧ (y4_2_1) ≤ (u0_7) from j4_6) (show (z124) = 0 → a1 + 4 ≤ (y124_0_12) ∧ (y124_0_12) ≤ (u0_5) from q_3360 b17 j4_4 pz124_2) (show (y4_2_2) = 0 from j4_7) (show IMP ((z124) = 0) (TRB (ub8 ((w1))) ((u0_5)) ((u0_7)) ((u0_8)) ((u0_9)) ((u0_10)) (sc ((w5)) 0 ((u4_1))) (a1) (sc ((w3)) 0 ((u2_1))) (0, 0, (y124_0_12), sc ((w4_3)) 0 ((y4_2_1)))) by assumption) (show IMP ((z124) ≠ 0) (TRB (ub8 ((w1))) ((u0_5)) ((u0_7)) ((u0_8)) ((u0_9)) ((u0_10)) (sc ((w5)) 0 ((u4_1))) (a1) (sc ((w3)) 0 ((u2_1))) ((z124), (y124_0_12), 0, [])) by assumption))
      · refine Ew_of (pcₚ := 23) (fun _ => x_aload_n rfl l4_0) ?_
        refine Ew_of (pcₚ := 24) (fun _ => x_iconst rfl) ?_
        refine Ew_of (pcₚ := 25) (fun _ => x_aload_n rfl l4_0) ?_
        refine v_g H (o := 0) (v := I (u0_5)) rfl rfl rfl rfl rfl (congrArg (fun z : Int => I z) (((mF_4 0 5 rfl).trans (eu0_5)) : F_4 0 5 = u0_5)) ?_
        have r126 : (-2147483648 : Int) ≤ F_4 0 12 ∧ F_4 0 12 ≤ 2147483647 := H.krg 0 12 (ltn len_V228_oz_D5cls rfl)
        refine v_inv H (o := 0) rfl rfl rfl rfl rfl rfl (by rfl) (C221 (D := puc 0 D_4) (N := puc 0 N_4) (HW_subc H oz_D5cls_25 oz_D5cls_10) (F_4 0 12) (rfl) (show inr (1) from q_135) (show inr (u0_5) from q_38 h1) (fun z127 σ127 F127ₚ A127ₚ Hₚ Oₚ hS127 hA127 y127_0_12 ey127_0_12 pz127_0 pz127_1 pz127_2 => ⟨rfl, ?_⟩))
        refine v_backc (c := c_4) (s := s_4) H oz_D5cls_25 oz_D5cls_10 Hₚ Oₚ (fun F127 A127 H Oₚ eF127 eA127 => ?_)
        have O := OUT_trans O Oₚ
        -- Tokens.fail
        have cF127 : SF oz_D5clsl_7 F F127 := SF_trans (cF_4) (SF_gluc (ι := oz_D5clsl_3) oz_D5cls_10 hS127 eF127 (by decide +kernel)) (any_sub (lₚ := [(0, 12)]) (by decide +kernel))
        have mF127 := SFm_of cF127 oz_D5cls_26
        have cA127 : SA oz_D5clsl_5 A A127 := SA_trans (cA_4) (SA_gluc (ι := oz_D5clsl_3) oz_D5cls_10 hA127 eA127 (by decide +kernel)) (any_subA (lₚ := []) (by decide +kernel))
        have mA127 := SAm_of cA127 oz_D5cls_16
        have r128 : (-2147483648 : Int) ≤ y127_0_12 ∧ y127_0_12 ≤ 2147483647 := rngE (show (-2147483648 : Int) ≤ F127 0 12 ∧ F127 0 12 ≤ 2147483647 from H.krg 0 12 (ltn len_V228_oz_D5cls rfl)) (show F127 0 12 = y127_0_12 from ((eF127 0 12).trans ey127_0_12))
        have : IMP (((z127) : Int) = 0) (TRB (ub8 ((w1))) ((u0_5)) ((u0_7)) ((u0_8)) ((u0_9)) ((u0_10)) (sc ((w5)) 0 ((u4_1))) ((a1)) (sc ((w3)) 0 ((u2_1))) (0, 0, (y127_0_12), sc ((w4_3)) 0 ((y4_2_1)))) := fun z => absurd z (by omega)
        have : IMP (((z127) : Int) ≠ 0) (TRB (ub8 ((w1))) ((u0_5)) ((u0_7)) ((u0_8)) ((u0_9)) ((u0_10)) (sc ((w5)) 0 ((u4_1))) ((a1)) (sc ((w3)) 0 ((u2_1))) (((z127) : Int), (y127_0_12), 0, [])) := fun _ => ITO_e j4_x (TRe_1 (by omega) (by omega) (by omega))
        exact w_ireturn rfl (k (z127) _ _ _ _ _ _ _ H O (cD_4) (cN_4) (cF127) (cA127) ((((show F127 2 0 = F_4 2 0 from (eF127 2 0)))).trans (pm4_3)) (m4_3) (em4_3) (y127_0_12) (((eF127 0 12).trans ey127_0_12)) (y4_2_1) ((((show F127 2 1 = F_4 2 1 from (eF127 2 1))).trans (ey4_2_1))) (y4_2_2) ((((show F127 2 2 = F_4 2 2 from (eF127 2 2))).trans (ey4_2_2))) (w4_3) (((show A127 3 = A_4 3 from (eA127 3))).trans (ew4_3)) (show inr (z127) from pz127_0) (show 0 ≤ (z127) ∧ (z127) ≤ 9 from q_3348 pz127_1) (show 0 ≤ (y4_2_1) ∧ (y4_2_1) ≤ (m4_3) ∧ (m4_3) ≤ 65536 from j4_5) (show (u2_1) ≤ (y4_2_1) ∧ (y4_2_1) ≤ (u0_7) from j4_6) (show (z127) = 0 → a1 + 4 ≤ (y127_0_12) ∧ (y127_0_12) ≤ (u0_5) from q_3347 h2 pz127_1 pz127_2) (show (y4_2_2) = 0 from j4_7) (show IMP ((z127) = 0) (TRB (ub8 ((w1))) ((u0_5)) ((u0_7)) ((u0_8)) ((u0_9)) ((u0_10)) (sc ((w5)) 0 ((u4_1))) (a1) (sc ((w3)) 0 ((u2_1))) (0, 0, (y127_0_12), sc ((w4_3)) 0 ((y4_2_1)))) by assumption) (show IMP ((z127) ≠ 0) (TRB (ub8 ((w1))) ((u0_5)) ((u0_7)) ((u0_8)) ((u0_9)) ((u0_10)) (sc ((w5)) 0 ((u4_1))) (a1) (sc ((w3)) 0 ((u2_1))) ((z127), (y127_0_12), 0, [])) by assumption))
abbrev V230 : vV := [(0, 11, [(4, 0), (4, 0), (4, 0), (4, 0), (4, 0), (0, 0), (4, 0), (0, 0), (0, 0), (0, 0), (0, 0), (0, 0), (0, 0)]), (1, 0, []), (0, 7, [(4, 0), (0, 0), (1, 0), (0, 0), (0, 0)]), (1, 0, [])]
theorem len_V230_oz_D5cls : (V230).length = 4 := by decide +kernel
theorem oz_D5cls_30 : vsub V230 V221 [0] = true := by decide +kernel
theorem oz_D5cls_31 : vsub V230 V42_Br [1] = true := by decide +kernel
theorem oz_D5cls_32 : vsub V230 V41_Br [1] = true := by decide +kernel
theorem oz_D5cls_33 : vsub V230 V49_Br [3] = true := by decide +kernel
def oz_D5clsl_10 : List (Nat × Nat) := [(0, 12)]
theorem oz_D5cls_34 : (oz_D5clsl_10).all (fun p => !tbz 4096 (Nat.add (Nat.mul 32 p.1) p.2)) = true := by decide +kernel
theorem oz_D5cls_35 : okc oz_D5clsl_5 3 = true := by decide +kernel

theorem C230 {σE : rS} {D N : Nat → Nat} {F : hF} {A : hA} {d c s : Nat} {Q : wQ} (H : HW V230 σE D N F A) {a1 a2 : Int} (pf1 : F 0 4 = (D 1 : Int)) (pf2 : F 0 6 = (D 2 : Int)) (pf3 : F 2 0 = (D 3 : Int)) (n1 : Int) (en1 : (N 1 : Int) = n1) (n3 : Int) (en3 : (N 3 : Int) = n3) (u0_5 : Int) (eu0_5 : F 0 5 = u0_5) (u0_8 : Int) (eu0_8 : F 0 8 = u0_8) (u0_10 : Int) (eu0_10 : F 0 10 = u0_10) (u0_12 : Int) (eu0_12 : F 0 12 = u0_12) (u2_1 : Int) (eu2_1 : F 2 1 = u2_1) (w1 : Int → Int) (ew1 : A 1 = w1) (w3 : Int → Int) (ew3 : A 3 = w3) (h0 : inr (a1)) (h1 : inr (a2)) (h2 : 0 ≤ (u0_5) ∧ (u0_5) ≤ (n1) ∧ (n1) ≤ 65536) (h3 : 0 ≤ (a1) ∧ (a1) ≤ (u0_5)) (h4 : 0 ≤ (u2_1) ∧ (u2_1) ≤ (n3) ∧ (n3) ≤ 65536) (h5 : 0 ≤ (u0_10) ∧ (u0_10) ≤ (u2_1)) (h6 : 0 ≤ (a2)) (h7 : andI ((u0_8)) 8 = 0 ∨ (a2) + 8 ≤ (n1)) (k : ∀ (z : Int) (σ : rS) (Fₚ : hF) (Aₚ : hA), HW V230 σ D N Fₚ Aₚ → OUT (V230).length D N σE c s D N σ c s → SF [(0, 12)] F Fₚ → SA [] A Aₚ → ∀ y0_12 : Int, Fₚ 0 12 = y0_12 → (inr (z)) → (0 ≤ (z) ∧ (z) ≤ 11) → ((z) = 0 → (a1) ≤ (y0_12) ∧ (y0_12) ≤ (u0_5)) → (TEn (ub8 ((w1))) ((u0_5)) ((a2) - 6) ((u0_10)) ((u0_8)) ((a1)) (sc ((w3)) 0 ((u2_1))) ((z)) ((y0_12))) → Q (some (I z)) σ c s) : Ew 230 (d + 3) 0 (rargs 0 [.ref (D 0), I a1, I a2]) [] σE c s Q := by
  have O := OUT_refl (n := (V230).length) (D := D) (N := N) (σ := σE) (c := c) (s := s)
  have HE := H
  have r1 : (-2147483648 : Int) ≤ u0_5 ∧ u0_5 ≤ 2147483647 := rngE (show (-2147483648 : Int) ≤ F 0 5 ∧ F 0 5 ≤ 2147483647 from H.krg 0 5 (ltn len_V230_oz_D5cls rfl)) (show F 0 5 = u0_5 from (eu0_5))
  have r2 : (-2147483648 : Int) ≤ u0_8 ∧ u0_8 ≤ 2147483647 := rngE (show (-2147483648 : Int) ≤ F 0 8 ∧ F 0 8 ≤ 2147483647 from H.krg 0 8 (ltn len_V230_oz_D5cls rfl)) (show F 0 8 = u0_8 from (eu0_8))
  have r3 : (-2147483648 : Int) ≤ u0_10 ∧ u0_10 ≤ 2147483647 := rngE (show (-2147483648 : Int) ≤ F 0 10 ∧ F 0 10 ≤ 2147483647 from H.krg 0 10 (ltn len_V230_oz_D5cls rfl)) (show F 0 10 = u0_10 from (eu0_10))
  have r4 : (-2147483648 : Int) ≤ u0_12 ∧ u0_12 ≤ 2147483647 := rngE (show (-2147483648 : Int) ≤ F 0 12 ∧ F 0 12 ≤ 2147483647 from H.krg 0 12 (ltn len_V230_oz_D5cls rfl)) (show F 0 12 = u0_12 from (eu0_12))
  have r5 : (-2147483648 : Int) ≤ u2_1 ∧ u2_1 ≤ 2147483647 := rngE (show (-2147483648 : Int) ≤ F 2 1 ∧ F 2 1 ≤ 2147483647 from H.krg 2 1 (ltn len_V230_oz_D5cls rfl)) (show F 2 1 = u2_1 from (eu2_1))
  have r6 : (0 : Int) ≤ n1 ∧ n1 ≤ 1000000 := nleE (H.nle 1 (ltn len_V230_oz_D5cls rfl)) (show (N 1 : Int) = n1 from en1)
  have r7 : (0 : Int) ≤ n3 ∧ n3 ≤ 1000000 := nleE (H.nle 3 (ltn len_V230_oz_D5cls rfl)) (show (N 3 : Int) = n3 from en3)
  refine Ew_of (pcₚ := 1) (fun _ => x_iload_n rfl rfl) ?_
  refine Ew_of (pcₚ := 2) (fun _ => x_istore_n rfl) ?_
  have hc75 : ∀ (ls : rO) (σ : rS) (F_c75 : hF) (A_c75 : hA) (xc75_3 : Int), rlook ls 0 = some (.ref (D 0)) → rlook ls 2 = some (I (a2)) → rlook ls 3 = some (I (xc75_3)) → HW V230 σ D N F_c75 A_c75 → OUT (V230).length D N σE c s D N σ c s → SF [] F F_c75 → SA [] A A_c75 → (inr (xc75_3)) → ((xc75_3) = (a1) ∨ (xc75_3) = (a1) + 4 ∧ (xc75_3) ≤ (u0_5)) → (TEq (ub8 ((w1))) ((u0_5)) ((u0_10)) ((u0_8)) ((a1)) (sc ((w3)) 0 ((u2_1))) ((xc75_3))) → Ew 230 (d + 3) 75 ls [] σ c s Q := by
   as_aux_lemma =>
    intro  ls σ F_c75 A_c75 xc75_3 lc75_0 lc75_2 lc75_3 H O hS_c75 hA_c75     jc75_0 jc75_1 jc75_2
    have cF_c75 : SF oz_D5clsl_10 F F_c75 := SF_trans (SF_refl) hS_c75 (any_sub (by decide +kernel))
    have mF_c75 := SFm_of cF_c75 oz_D5cls_34
    have cA_c75 : SA oz_D5clsl_1 A A_c75 := SA_trans (SA_refl) hA_c75 (any_subA (by decide +kernel))
    have mA_c75 := SAm_of cA_c75 oz_D5cls_7
    have hEq : TEq (ub8 ((w1))) ((u0_5)) ((u0_10)) ((u0_8)) ((a1)) (sc ((w3)) 0 ((u2_1))) ((xc75_3)) := jc75_2
    have hCl : ((sc ((w3)) 0 ((u2_1))).length : Int) = (u2_1) := by rw [sc_lenI (by omega)]; omega
    refine Ew_of (pcₚ := 76) (fun _ => x_aload_n rfl lc75_0) ?_
    refine v_g H (o := 0) (v := I (u0_8)) rfl rfl rfl rfl rfl (congrArg (fun z : Int => I z) (((mF_c75 0 8 rfl).trans (eu0_8)) : F_c75 0 8 = u0_8)) ?_
    refine Ew_of (pcₚ := 81) (fun _ => x_bipush (z := 8) rfl (by decide)) ?_
    refine w_iandE rfl (show inr (u0_8) from q_18 r2) (show inr (8) from q_141) (fun z8 gz8 gaz8 gbz8 gez8 => ?_)
    refine w_ifeq (t := 120) rfl rfl (show inr (z8) from gz8) (fun b9 => ?_) (fun b9 => ?_)
    · refine Ew_of (pcₚ := 121) (fun _ => x_aload_n rfl lc75_0) ?_
      refine Ew_of (pcₚ := 122) (fun _ => x_iconst rfl) ?_
      refine Ew_of (pcₚ := 123) (fun _ => x_iload_n rfl lc75_3) ?_
      refine v_inv H (o := 0) rfl rfl rfl rfl rfl rfl (by rfl) (C221 (D := puc 0 D) (N := puc 0 N) (HW_subc H oz_D5cls_30 oz_D5cls_10) (u0_12) (((hS_c75 0 12 rfl).trans (eu0_12))) (show inr (0) from q_2) (show inr (xc75_3) from jc75_0) (fun z10 σ10 F10ₚ A10ₚ Hₚ Oₚ hS10 hA10 y10_0_12 ey10_0_12 pz10_0 pz10_1 pz10_2 => ⟨rfl, ?_⟩))
      refine v_backc (c := c) (s := s) H oz_D5cls_30 oz_D5cls_10 Hₚ Oₚ (fun F10 A10 H Oₚ eF10 eA10 => ?_)
      have O := OUT_trans O Oₚ
      -- Tokens.fail
      have cF10 : SF oz_D5clsl_10 F F10 := SF_trans (cF_c75) (SF_gluc (ι := oz_D5clsl_3) oz_D5cls_10 hS10 eF10 (by decide +kernel)) (any_sub (lₚ := [(0, 12)]) (by decide +kernel))
      have mF10 := SFm_of cF10 oz_D5cls_34
      have cA10 : SA oz_D5clsl_1 A A10 := SA_trans (cA_c75) (SA_gluc (ι := oz_D5clsl_3) oz_D5cls_10 hA10 eA10 (by decide +kernel)) (any_subA (lₚ := []) (by decide +kernel))
      have mA10 := SAm_of cA10 oz_D5cls_7
      have r11 : (-2147483648 : Int) ≤ y10_0_12 ∧ y10_0_12 ≤ 2147483647 := rngE (show (-2147483648 : Int) ≤ F10 0 12 ∧ F10 0 12 ≤ 2147483647 from H.krg 0 12 (ltn len_V230_oz_D5cls rfl)) (show F10 0 12 = y10_0_12 from ((eF10 0 12).trans ey10_0_12))
      have : TEn (ub8 ((w1))) ((u0_5)) ((a2) - 6) ((u0_10)) ((u0_8)) ((a1)) (sc ((w3)) 0 ((u2_1))) ((z10)) ((y10_0_12)) := TEn_0 (s := (a2)) hEq (by first | exact .inl (by omega) | exact .inr ⟨by omega, by have h := (ld_eq hn8 (show 0 ≤ (u2_1) - (u0_10) ∧ (u2_1) - (u0_10) < 9223372036854775808 from q_3362 h4 h5)).mp (by omega); omega⟩) (by omega) (by omega)
      exact w_ireturn rfl (k (z10) _ _ _ H O (cF10) (cA10) (y10_0_12) (((eF10 0 12).trans ey10_0_12)) (show inr (z10) from pz10_0) (show 0 ≤ (z10) ∧ (z10) ≤ 11 from q_3364 pz10_1) (show (z10) = 0 → a1 ≤ (y10_0_12) ∧ (y10_0_12) ≤ (u0_5) from q_3363 h3 jc75_1 pz10_2) (show TEn (ub8 ((w1))) ((u0_5)) (a2 - 6) ((u0_10)) ((u0_8)) (a1) (sc ((w3)) 0 ((u2_1))) ((z10)) ((y10_0_12)) by assumption))
    · refine Ew_of (pcₚ := 86) (fun _ => x_aload_n rfl lc75_0) ?_
      refine v_g H (o := 0) (v := .ref (D 1)) rfl rfl rfl rfl rfl (vrf ((mF_c75 0 4 rfl).trans (pf1))) ?_
      refine Ew_of (pcₚ := 90) (fun _ => x_iload_n rfl lc75_2) ?_
      refine Ew_of (pcₚ := 92) (fun _ => x_bipush (z := 8) rfl (by decide)) ?_
      refine w_stat25 rfl rfl (by rfl) (C42_Br (D := puc 1 D) (N := puc 1 N) (HW_subc H oz_D5cls_31 oz_D5cls_8) (n1) (en1) (w1) ((funext (mA_c75 1 rfl)).trans (ew1)) (show inr (a2) from h1) (show inr (8) from q_141) (show (8) ≤ 0 ∨ 0 ≤ (a2) ∧ (a2) + (8) ≤ (n1) by omega) (show 0 ≤ (8) ∧ (8) ≤ 8 from q_669) (fun z12 σ12 F12ₚ A12ₚ Hₚ Oₚ hS12 hA12 pz12_0 pz12_1 pz12_2 => ⟨rfl, ?_⟩))
      refine v_backc (c := c) (s := s) H oz_D5cls_31 oz_D5cls_8 Hₚ Oₚ (fun F12 A12 H Oₚ eF12 eA12 => ?_)
      have O := OUT_trans O Oₚ
      -- PackHouse.number
      have cF12 : SF oz_D5clsl_10 F F12 := SF_trans (cF_c75) (SF_gluc (ι := oz_D5clsl_2) oz_D5cls_8 hS12 eF12 (by decide +kernel)) (any_sub (lₚ := []) (by decide +kernel))
      have mF12 := SFm_of cF12 oz_D5cls_34
      have cA12 : SA oz_D5clsl_1 A A12 := SA_trans (cA_c75) (SA_gluc (ι := oz_D5clsl_2) oz_D5cls_8 hA12 eA12 (by decide +kernel)) (any_subA (lₚ := []) (by decide +kernel))
      have mA12 := SAm_of cA12 oz_D5cls_7
      have hn8 := nmb_8 pz12_2 pz12_0
      rw [← ldJ_ub] at hn8
      refine Ew_of (pcₚ := 96) (fun _ => x_aload_n rfl lc75_0) ?_
      refine v_g H (o := 0) (v := .ref (D 2)) rfl rfl rfl rfl rfl (vrf ((mF12 0 6 rfl).trans (pf2))) ?_
      refine v_g H (o := 2) (v := I (u2_1)) rfl rfl rfl rfl rfl (congrArg (fun z : Int => I z) (((mF12 2 1 rfl).trans (eu2_1)) : F12 2 1 = u2_1)) ?_
      refine Ew_of (pcₚ := 103) (fun _ => x_aload_n rfl lc75_0) ?_
      refine v_g H (o := 0) (v := I (u0_10)) rfl rfl rfl rfl rfl (congrArg (fun z : Int => I z) (((mF12 0 10 rfl).trans (eu0_10)) : F12 0 10 = u0_10)) ?_
      refine w_isub rfl ?_
      refine w_i2l rfl (show inr ((u2_1 - u0_10)) from q_3014 h4 h5) ?_
      refine w_lcmp rfl (show inrJ (z12) from pz12_0) (show inrJ ((u2_1 - u0_10)) from q_3365 h4 h5) (fun z13 gz13 gaz13 gbz13 => ?_)
      refine w_ifeq (t := 120) rfl rfl (show inr (z13) from gz13) (fun b14 => ?_) (fun b14 => ?_)
      · refine Ew_of (pcₚ := 121) (fun _ => x_aload_n rfl lc75_0) ?_
        refine Ew_of (pcₚ := 122) (fun _ => x_iconst rfl) ?_
        refine Ew_of (pcₚ := 123) (fun _ => x_iload_n rfl lc75_3) ?_
        refine v_inv H (o := 0) rfl rfl rfl rfl rfl rfl (by rfl) (C221 (D := puc 0 D) (N := puc 0 N) (HW_subc H oz_D5cls_30 oz_D5cls_10) (u0_12) (((((show F12 0 12 = F_c75 0 12 from (eF12 0 12))).trans (hS_c75 0 12 rfl)).trans (eu0_12))) (show inr (0) from q_2) (show inr (xc75_3) from jc75_0) (fun z15 σ15 F15ₚ A15ₚ Hₚ Oₚ hS15 hA15 y15_0_12 ey15_0_12 pz15_0 pz15_1 pz15_2 => ⟨rfl, ?_⟩))
        refine v_backc (c := c) (s := s) H oz_D5cls_30 oz_D5cls_10 Hₚ Oₚ (fun F15 A15 H Oₚ eF15 eA15 => ?_)
        have O := OUT_trans O Oₚ
        -- Tokens.fail
        have cF15 : SF oz_D5clsl_10 F F15 := SF_trans (cF12) (SF_gluc (ι := oz_D5clsl_3) oz_D5cls_10 hS15 eF15 (by decide +kernel)) (any_sub (lₚ := [(0, 12)]) (by decide +kernel))
        have mF15 := SFm_of cF15 oz_D5cls_34
        have cA15 : SA oz_D5clsl_1 A A15 := SA_trans (cA12) (SA_gluc (ι := oz_D5clsl_3) oz_D5cls_10 hA15 eA15 (by decide +kernel)) (any_subA (lₚ := []) (by decide +kernel))
        have mA15 := SAm_of cA15 oz_D5cls_7
        have r16 : (-2147483648 : Int) ≤ y15_0_12 ∧ y15_0_12 ≤ 2147483647 := rngE (show (-2147483648 : Int) ≤ F15 0 12 ∧ F15 0 12 ≤ 2147483647 from H.krg 0 12 (ltn len_V230_oz_D5cls rfl)) (show F15 0 12 = y15_0_12 from ((eF15 0 12).trans ey15_0_12))
        have : TEn (ub8 ((w1))) ((u0_5)) ((a2) - 6) ((u0_10)) ((u0_8)) ((a1)) (sc ((w3)) 0 ((u2_1))) ((z15)) ((y15_0_12)) := TEn_0 (s := (a2)) hEq (by first | exact .inl (by omega) | exact .inr ⟨by omega, by have h := (ld_eq hn8 (show 0 ≤ (u2_1) - (u0_10) ∧ (u2_1) - (u0_10) < 9223372036854775808 from q_3362 h4 h5)).mp (by omega); omega⟩) (by omega) (by omega)
        exact w_ireturn rfl (k (z15) _ _ _ H O (cF15) (cA15) (y15_0_12) (((eF15 0 12).trans ey15_0_12)) (show inr (z15) from pz15_0) (show 0 ≤ (z15) ∧ (z15) ≤ 11 from q_3364 pz15_1) (show (z15) = 0 → a1 ≤ (y15_0_12) ∧ (y15_0_12) ≤ (u0_5) from q_3363 h3 jc75_1 pz15_2) (show TEn (ub8 ((w1))) ((u0_5)) (a2 - 6) ((u0_10)) ((u0_8)) (a1) (sc ((w3)) 0 ((u2_1))) ((z15)) ((y15_0_12)) by assumption))
      · refine Ew_of (pcₚ := 113) (fun _ => x_aload_n rfl lc75_0) ?_
        refine Ew_of (pcₚ := 115) (fun _ => x_bipush (z := 11) rfl (by decide)) ?_
        refine Ew_of (pcₚ := 116) (fun _ => x_iload_n rfl lc75_2) ?_
        refine v_inv H (o := 0) rfl rfl rfl rfl rfl rfl (by rfl) (C221 (D := puc 0 D) (N := puc 0 N) (HW_subc H oz_D5cls_30 oz_D5cls_10) (u0_12) (((((show F12 0 12 = F_c75 0 12 from (eF12 0 12))).trans (hS_c75 0 12 rfl)).trans (eu0_12))) (show inr (11) from q_326) (show inr (a2) from h1) (fun z17 σ17 F17ₚ A17ₚ Hₚ Oₚ hS17 hA17 y17_0_12 ey17_0_12 pz17_0 pz17_1 pz17_2 => ⟨rfl, ?_⟩))
        refine v_backc (c := c) (s := s) H oz_D5cls_30 oz_D5cls_10 Hₚ Oₚ (fun F17 A17 H Oₚ eF17 eA17 => ?_)
        have O := OUT_trans O Oₚ
        -- Tokens.fail
        have cF17 : SF oz_D5clsl_10 F F17 := SF_trans (cF12) (SF_gluc (ι := oz_D5clsl_3) oz_D5cls_10 hS17 eF17 (by decide +kernel)) (any_sub (lₚ := [(0, 12)]) (by decide +kernel))
        have mF17 := SFm_of cF17 oz_D5cls_34
        have cA17 : SA oz_D5clsl_1 A A17 := SA_trans (cA12) (SA_gluc (ι := oz_D5clsl_3) oz_D5cls_10 hA17 eA17 (by decide +kernel)) (any_subA (lₚ := []) (by decide +kernel))
        have mA17 := SAm_of cA17 oz_D5cls_7
        have r18 : (-2147483648 : Int) ≤ y17_0_12 ∧ y17_0_12 ≤ 2147483647 := rngE (show (-2147483648 : Int) ≤ F17 0 12 ∧ F17 0 12 ≤ 2147483647 from H.krg 0 12 (ltn len_V230_oz_D5cls rfl)) (show F17 0 12 = y17_0_12 from ((eF17 0 12).trans ey17_0_12))
        have : TEn (ub8 ((w1))) ((u0_5)) ((a2) - 6) ((u0_10)) ((u0_8)) ((a1)) (sc ((w3)) 0 ((u2_1))) ((z17)) ((y17_0_12)) := TEn_11 (s := (a2)) hEq (by omega) (by omega) (fun q => by have h := (ld_eq hn8 (show 0 ≤ (u2_1) - (u0_10) ∧ (u2_1) - (u0_10) < 9223372036854775808 from q_3362 h4 h5)).mpr (by omega); omega) (by omega) (by omega)
        exact w_ireturn rfl (k (z17) _ _ _ H O (cF17) (cA17) (y17_0_12) (((eF17 0 12).trans ey17_0_12)) (show inr (z17) from pz17_0) (show 0 ≤ (z17) ∧ (z17) ≤ 11 from q_3367 pz17_1) (show (z17) = 0 → a1 ≤ (y17_0_12) ∧ (y17_0_12) ≤ (u0_5) from q_3366 h0 h2 pz17_1 r18) (show TEn (ub8 ((w1))) ((u0_5)) (a2 - 6) ((u0_10)) ((u0_8)) (a1) (sc ((w3)) 0 ((u2_1))) ((z17)) ((y17_0_12)) by assumption))
  refine Ew_of (pcₚ := 3) (fun _ => x_aload_n rfl (rk_o (rfl) rfl rfl)) ?_
  refine v_g H (o := 0) (v := I (u0_8)) rfl rfl rfl rfl rfl (congrArg (fun z : Int => I z) ((eu0_8) : F 0 8 = u0_8)) ?_
  refine Ew_of (pcₚ := 7) (fun _ => x_iconst rfl) ?_
  refine w_iandE rfl (show inr (u0_8) from q_18 r2) (show inr (4) from q_216) (fun z19 gz19 gaz19 gbz19 gez19 => ?_)
  refine w_ifeq (t := 75) rfl rfl (show inr (z19) from gz19) (fun b20 => ?_) (fun b20 => ?_)
  · have : TEq (ub8 ((w1))) ((u0_5)) ((u0_10)) ((u0_8)) ((a1)) (sc ((w3)) 0 ((u2_1))) ((a1)) := by first | exact .inl ⟨by omega, by omega⟩ | exact TEq_y (by omega) (by omega) hx1 hy1 (by omega) (by omega)
    exact hc75  _ _ _ _ (a1) (rk_o (rfl) rfl rfl) (rk_o (rfl) rfl rfl) (rk_s) H O (SF_refl) (SA_refl)     (show inr (a1) from h0) (show (a1) = (a1) ∨ (a1) = (a1) + 4 ∧ (a1) ≤ (u0_5) from q_3368) (show TEq (ub8 ((w1))) ((u0_5)) ((u0_10)) ((u0_8)) ((a1)) (sc ((w3)) 0 ((u2_1))) ((a1)) by assumption)
  · refine Ew_of (pcₚ := 12) (fun _ => x_aload_n rfl (rk_o (rfl) rfl rfl)) ?_
    refine v_g H (o := 0) (v := I (u0_5)) rfl rfl rfl rfl rfl (congrArg (fun z : Int => I z) ((eu0_5) : F 0 5 = u0_5)) ?_
    refine Ew_of (pcₚ := 16) (fun _ => x_iload_n rfl rk_s) ?_
    refine w_isub rfl ?_
    refine Ew_of (pcₚ := 18) (fun _ => x_iconst rfl) ?_
    refine w_icmpge (t := 31) rfl rfl (show inr ((u0_5 - a1)) from q_3014 h2 h3) (show inr (4) from q_216) (fun b21 => ?_) (fun b21 => ?_)
    · refine Ew_of (pcₚ := 32) (fun _ => x_aload_n rfl (rk_o (rfl) rfl rfl)) ?_
      refine v_g H (o := 0) (v := .ref (D 1)) rfl rfl rfl rfl rfl (vrf (pf1)) ?_
      refine Ew_of (pcₚ := 36) (fun _ => x_iload_n rfl rk_s) ?_
      refine w_stat25 rfl rfl (by rfl) (C41_Br (D := puc 1 D) (N := puc 1 N) (HW_subc H oz_D5cls_32 oz_D5cls_8) (n1) (en1) (w1) (ew1) (show inr (a1) from h0) (show 0 ≤ (a1) ∧ (a1) + 4 ≤ (n1) from q_3015 b21 h2 h3) (fun z22 σ22 F22ₚ A22ₚ Hₚ Oₚ hS22 hA22 pz22_0 pz22_1 => ⟨rfl, ?_⟩))
      refine v_backc (c := c) (s := s) H oz_D5cls_32 oz_D5cls_8 Hₚ Oₚ (fun F22 A22 H Oₚ eF22 eA22 => ?_)
      have O := OUT_trans O Oₚ
      -- PackHouse.word
      have cF22 : SF oz_D5clsl_10 F F22 := SF_trans (SF_refl) (SF_gluc (ι := oz_D5clsl_2) oz_D5cls_8 hS22 eF22 (by decide +kernel)) (any_sub (lₚ := []) (by decide +kernel))
      have mF22 := SFm_of cF22 oz_D5cls_34
      have cA22 : SA oz_D5clsl_1 A A22 := SA_trans (SA_refl) (SA_gluc (ι := oz_D5clsl_2) oz_D5cls_8 hA22 eA22 (by decide +kernel)) (any_subA (lₚ := []) (by decide +kernel))
      have mA22 := SAm_of cA22 oz_D5cls_7
      have hx1 := wdm pz22_1
      have hxi := pz22_0
      refine Ew_of (pcₚ := 40) (fun _ => x_aload_n rfl (rk_o (rfl) rfl rfl)) ?_
      refine v_g H (o := 0) (v := .ref (D 2)) rfl rfl rfl rfl rfl (vrf ((mF22 0 6 rfl).trans (pf2))) ?_
      refine v_g H (o := 2) (v := .ref (D 3)) rfl rfl rfl rfl rfl (vrf ((mF22 2 0 rfl).trans (pf3))) ?_
      refine Ew_of (pcₚ := 47) (fun _ => x_aload_n rfl (rk_o (rfl) rfl rfl)) ?_
      refine v_g H (o := 0) (v := I (u0_10)) rfl rfl rfl rfl rfl (congrArg (fun z : Int => I z) (((mF22 0 10 rfl).trans (eu0_10)) : F22 0 10 = u0_10)) ?_
      refine Ew_of (pcₚ := 51) (fun _ => x_aload_n rfl (rk_o (rfl) rfl rfl)) ?_
      refine v_g H (o := 0) (v := .ref (D 2)) rfl rfl rfl rfl rfl (vrf ((mF22 0 6 rfl).trans (pf2))) ?_
      refine v_g H (o := 2) (v := I (u2_1)) rfl rfl rfl rfl rfl (congrArg (fun z : Int => I z) (((mF22 2 1 rfl).trans (eu2_1)) : F22 2 1 = u2_1)) ?_
      refine Ew_of (pcₚ := 58) (fun _ => x_iconst rfl) ?_
      refine w_stat25 rfl rfl (by rfl) (C49_Br (D := puc 3 D) (N := puc 3 N) (HW_subc H oz_D5cls_33 oz_D5cls_35) (n3) (en3) (w3) ((funext (mA22 3 rfl)).trans (ew3)) (show inr (u0_10) from q_512 h5 r3) (show inr (u2_1) from q_38 h4) (show inr (0) from q_2) (show 0 ≤ (u0_10) ∧ (u0_10) ≤ (u2_1) ∧ (u2_1) ≤ (n3) from q_3369 h4 h5) (fun z23 σ23 F23ₚ A23ₚ Hₚ Oₚ hS23 hA23 pz23_0 pz23_1 => ⟨rfl, ?_⟩))
      refine v_backc (c := c) (s := s) H oz_D5cls_33 oz_D5cls_35 Hₚ Oₚ (fun F23 A23 H Oₚ eF23 eA23 => ?_)
      have O := OUT_trans O Oₚ
      -- PackHouse.narrowSum
      have cF23 : SF oz_D5clsl_10 F F23 := SF_trans (cF22) (SF_gluc (ι := oz_D5clsl_5) oz_D5cls_35 hS23 eF23 (by decide +kernel)) (any_sub (lₚ := []) (by decide +kernel))
      have mF23 := SFm_of cF23 oz_D5cls_34
      have cA23 : SA oz_D5clsl_1 A A23 := SA_trans (cA22) (SA_gluc (ι := oz_D5clsl_5) oz_D5cls_35 hA23 eA23 (by decide +kernel)) (any_subA (lₚ := []) (by decide +kernel))
      have mA23 := SAm_of cA23 oz_D5cls_7
      have hyi := pz23_0
      have hy1 : (z23) % 4294967296 = NSL ((sc ((w3)) 0 ((u2_1))).drop ((u0_10)).toNat) 0 % 4294967296 := by rw [pz23_1, sc_dr (by omega) (by omega), NSM_L (b := (u2_1)) (by omega) (by omega)]
      refine w_icmpeq (t := 72) rfl rfl (show inr (z22) from pz22_0) (show inr (z23) from pz23_0) (fun b24 => ?_) (fun b24 => ?_)
      · refine Ew_of (pcₚ := 75) (fun _ => x_iinc (len := 3) rfl (rk_s)) ?_
        have : TEq (ub8 ((w1))) ((u0_5)) ((u0_10)) ((u0_8)) ((a1)) (sc ((w3)) 0 ((u2_1))) (((a1 + 4))) := by first | exact .inl ⟨by omega, by omega⟩ | exact TEq_y (by omega) (by omega) hx1 hy1 (by omega) (by omega)
        exact hc75  _ _ _ _ ((a1 + 4)) (rk_o (rk_o (rfl) rfl rfl) rfl rfl) (rk_o (rk_o (rfl) rfl rfl) rfl rfl) (rk_s) H O (SF_trans (SF_trans (SF_refl) (SF_gluc (ι := oz_D5clsl_2) oz_D5cls_8 hS22 eF22 (by decide +kernel)) (any_sub (lₚ := []) (by decide +kernel))) (SF_gluc (ι := oz_D5clsl_5) oz_D5cls_35 hS23 eF23 (by decide +kernel)) (any_sub (lₚ := []) (by decide +kernel))) (SA_trans (SA_trans (SA_refl) (SA_gluc (ι := oz_D5clsl_2) oz_D5cls_8 hA22 eA22 (by decide +kernel)) (any_subA (lₚ := []) (by decide +kernel))) (SA_gluc (ι := oz_D5clsl_5) oz_D5cls_35 hA23 eA23 (by decide +kernel)) (any_subA (lₚ := []) (by decide +kernel)))     (show inr ((a1 + 4)) from q_3371 b21 h2 h3) (show ((a1 + 4)) = (a1) ∨ ((a1 + 4)) = (a1) + 4 ∧ ((a1 + 4)) ≤ (u0_5) from q_3370 b21) (show TEq (ub8 ((w1))) ((u0_5)) ((u0_10)) ((u0_8)) ((a1)) (sc ((w3)) 0 ((u2_1))) (((a1 + 4))) by assumption)
      · refine Ew_of (pcₚ := 65) (fun _ => x_aload_n rfl (rk_o (rfl) rfl rfl)) ?_
        refine Ew_of (pcₚ := 67) (fun _ => x_bipush (z := 10) rfl (by decide)) ?_
        refine Ew_of (pcₚ := 68) (fun _ => x_iload_n rfl rk_s) ?_
        refine v_inv H (o := 0) rfl rfl rfl rfl rfl rfl (by rfl) (C221 (D := puc 0 D) (N := puc 0 N) (HW_subc H oz_D5cls_30 oz_D5cls_10) (u0_12) (((((show F23 0 12 = F22 0 12 from (eF23 0 12))).trans ((show F22 0 12 = F 0 12 from (eF22 0 12)))).trans (eu0_12))) (show inr (10) from q_746) (show inr (a1) from h0) (fun z25 σ25 F25ₚ A25ₚ Hₚ Oₚ hS25 hA25 y25_0_12 ey25_0_12 pz25_0 pz25_1 pz25_2 => ⟨rfl, ?_⟩))
        refine v_backc (c := c) (s := s) H oz_D5cls_30 oz_D5cls_10 Hₚ Oₚ (fun F25 A25 H Oₚ eF25 eA25 => ?_)
        have O := OUT_trans O Oₚ
        -- Tokens.fail
        have cF25 : SF oz_D5clsl_10 F F25 := SF_trans (cF23) (SF_gluc (ι := oz_D5clsl_3) oz_D5cls_10 hS25 eF25 (by decide +kernel)) (any_sub (lₚ := [(0, 12)]) (by decide +kernel))
        have mF25 := SFm_of cF25 oz_D5cls_34
        have cA25 : SA oz_D5clsl_1 A A25 := SA_trans (cA23) (SA_gluc (ι := oz_D5clsl_3) oz_D5cls_10 hA25 eA25 (by decide +kernel)) (any_subA (lₚ := []) (by decide +kernel))
        have mA25 := SAm_of cA25 oz_D5cls_7
        have r26 : (-2147483648 : Int) ≤ y25_0_12 ∧ y25_0_12 ≤ 2147483647 := rngE (show (-2147483648 : Int) ≤ F25 0 12 ∧ F25 0 12 ≤ 2147483647 from H.krg 0 12 (ltn len_V230_oz_D5cls rfl)) (show F25 0 12 = y25_0_12 from ((eF25 0 12).trans ey25_0_12))
        have : TEn (ub8 ((w1))) ((u0_5)) ((a2) - 6) ((u0_10)) ((u0_8)) ((a1)) (sc ((w3)) 0 ((u2_1))) ((z25)) ((y25_0_12)) := TEn_10 (by omega) (by omega) hx1 hy1 (by omega) (by omega) (by omega)
        exact w_ireturn rfl (k (z25) _ _ _ H O (cF25) (cA25) (y25_0_12) (((eF25 0 12).trans ey25_0_12)) (show inr (z25) from pz25_0) (show 0 ≤ (z25) ∧ (z25) ≤ 11 from q_3373 pz25_1) (show (z25) = 0 → a1 ≤ (y25_0_12) ∧ (y25_0_12) ≤ (u0_5) from q_3372 b21 pz25_2) (show TEn (ub8 ((w1))) ((u0_5)) (a2 - 6) ((u0_10)) ((u0_8)) (a1) (sc ((w3)) 0 ((u2_1))) ((z25)) ((y25_0_12)) by assumption))
    · refine Ew_of (pcₚ := 22) (fun _ => x_aload_n rfl (rk_o (rfl) rfl rfl)) ?_
      refine Ew_of (pcₚ := 23) (fun _ => x_iconst rfl) ?_
      refine Ew_of (pcₚ := 24) (fun _ => x_aload_n rfl (rk_o (rfl) rfl rfl)) ?_
      refine v_g H (o := 0) (v := I (u0_5)) rfl rfl rfl rfl rfl (congrArg (fun z : Int => I z) ((eu0_5) : F 0 5 = u0_5)) ?_
      refine v_inv H (o := 0) rfl rfl rfl rfl rfl rfl (by rfl) (C221 (D := puc 0 D) (N := puc 0 N) (HW_subc H oz_D5cls_30 oz_D5cls_10) (u0_12) ((eu0_12)) (show inr (1) from q_135) (show inr (u0_5) from q_38 h2) (fun z27 σ27 F27ₚ A27ₚ Hₚ Oₚ hS27 hA27 y27_0_12 ey27_0_12 pz27_0 pz27_1 pz27_2 => ⟨rfl, ?_⟩))
      refine v_backc (c := c) (s := s) H oz_D5cls_30 oz_D5cls_10 Hₚ Oₚ (fun F27 A27 H Oₚ eF27 eA27 => ?_)
      have O := OUT_trans O Oₚ
      -- Tokens.fail
      have cF27 : SF oz_D5clsl_10 F F27 := SF_trans (SF_refl) (SF_gluc (ι := oz_D5clsl_3) oz_D5cls_10 hS27 eF27 (by decide +kernel)) (any_sub (lₚ := [(0, 12)]) (by decide +kernel))
      have mF27 := SFm_of cF27 oz_D5cls_34
      have cA27 : SA oz_D5clsl_1 A A27 := SA_trans (SA_refl) (SA_gluc (ι := oz_D5clsl_3) oz_D5cls_10 hA27 eA27 (by decide +kernel)) (any_subA (lₚ := []) (by decide +kernel))
      have mA27 := SAm_of cA27 oz_D5cls_7
      have r28 : (-2147483648 : Int) ≤ y27_0_12 ∧ y27_0_12 ≤ 2147483647 := rngE (show (-2147483648 : Int) ≤ F27 0 12 ∧ F27 0 12 ≤ 2147483647 from H.krg 0 12 (ltn len_V230_oz_D5cls rfl)) (show F27 0 12 = y27_0_12 from ((eF27 0 12).trans ey27_0_12))
      have : TEn (ub8 ((w1))) ((u0_5)) ((a2) - 6) ((u0_10)) ((u0_8)) ((a1)) (sc ((w3)) 0 ((u2_1))) ((z27)) ((y27_0_12)) := TEn_1 (by omega) (by omega) (by omega) (by omega)
      exact w_ireturn rfl (k (z27) _ _ _ H O (cF27) (cA27) (y27_0_12) (((eF27 0 12).trans ey27_0_12)) (show inr (z27) from pz27_0) (show 0 ≤ (z27) ∧ (z27) ≤ 11 from q_3375 pz27_1) (show (z27) = 0 → a1 ≤ (y27_0_12) ∧ (y27_0_12) ≤ (u0_5) from q_3374 h3 pz27_2) (show TEn (ub8 ((w1))) ((u0_5)) (a2 - 6) ((u0_10)) ((u0_8)) (a1) (sc ((w3)) 0 ((u2_1))) ((z27)) ((y27_0_12)) by assumption))
abbrev V226_Row_Row : vV := [(0, 11, [(4, 0), (4, 0), (4, 0), (4, 0), (4, 0), (0, 0), (4, 0), (0, 0), (0, 0), (0, 0), (0, 0), (0, 0), (0, 0)]), (0, 7, [(4, 0), (0, 0), (1, 0), (0, 0), (0, 0)]), (0, 7, [(4, 0), (0, 0), (1, 0), (0, 0), (0, 0)]), (1, 0, []), (1, 0, []), (0, 7, [(4, 0), (0, 0), (1, 0), (0, 0), (0, 0)]), (1, 0, [])]
theorem len_V226_Row_Row_oz_D5cls : (V226_Row_Row).length = 7 := by decide +kernel
theorem oz_D5cls_37 : vsub V226_Row_Row V222_Row_Row [0, 1, 2, 3] = true := by decide +kernel
theorem oz_D5cls_38 : vsub V226_Row_Row V221 [0] = true := by decide +kernel
theorem oz_D5cls_39 : vsub V226_Row_Row V43_Br [3] = true := by decide +kernel
theorem oz_D5cls_40 : vsub V226_Row_Row V227 [0, 3, 2, 4] = true := by decide +kernel
theorem oz_D5cls_41 : vsub V226_Row_Row V230 [0, 3, 2, 4] = true := by decide +kernel
theorem oz_D5cls_42 : vsub V226_Row_Row V228 [0, 3, 2, 4, 5, 6] = true := by decide +kernel
theorem oz_D5cls_43 : vmov V226_Row_Row [0, 3, 2, 4, 5, 6] [3] = true := by decide +kernel
theorem oz_D5cls_44 : vsub V226_Row_Row V44_Br [3] = true := by decide +kernel
def oz_D5clsl_11 : List (Nat × Nat) := [(0, 4), (0, 5), (0, 6), (0, 7), (0, 8), (0, 9), (0, 10), (0, 11), (0, 12), (2, 0), (2, 1), (2, 2)]
theorem oz_D5cls_45 : (oz_D5clsl_11).all (fun p => !tbz 129127208515966869488 (Nat.add (Nat.mul 32 p.1) p.2)) = true := by decide +kernel
def oz_D5clsl_12 : List Nat := [4]
theorem oz_D5cls_46 : (oz_D5clsl_12).all (fun p => !tbz 16 p) = true := by decide +kernel
def oz_D5clsl_13 : List Nat := [0, 3, 2, 4]
theorem oz_D5cls_47 : okc oz_D5clsl_13 537396736 = true := by decide +kernel
def oz_D5clsl_14 : List Nat := [0, 3, 2, 4, 5, 6]
theorem oz_D5cls_48 : okc oz_D5clsl_14 211450367313408 = true := by decide +kernel

theorem C226_Row_Row {σE : rS} {D N : Nat → Nat} {F : hF} {A : hA} {d c s : Nat} {Q : wQ} (H : HW V226_Row_Row σE D N F A) {a3 : Int} (pf3 : F 1 0 = (D 3 : Int)) (pf4 : F 2 0 = (D 4 : Int)) (pf5 : F 0 1 = (D 5 : Int)) (pf6 : F 5 0 = (D 6 : Int)) (n3 : Int) (en3 : (N 3 : Int) = n3) (n4 : Int) (en4 : (N 4 : Int) = n4) (n6 : Int) (en6 : (N 6 : Int) = n6) (u0_12 : Int) (eu0_12 : F 0 12 = u0_12) (u1_1 : Int) (eu1_1 : F 1 1 = u1_1) (u2_1 : Int) (eu2_1 : F 2 1 = u2_1) (u2_2 : Int) (eu2_2 : F 2 2 = u2_2) (u5_1 : Int) (eu5_1 : F 5 1 = u5_1) (w3 : Int → Int) (ew3 : A 3 = w3) (w4 : Int → Int) (ew4 : A 4 = w4) (w6 : Int → Int) (ew6 : A 6 = w6) (h0 : inr (a3)) (h1 : 0 ≤ (u1_1) ∧ (u1_1) ≤ (n3) ∧ (n3) ≤ 65536) (h2 : 0 ≤ (u2_1) ∧ (u2_1) ≤ (n4) ∧ (n4) ≤ 65536) (h3 : 0 ≤ (u5_1) ∧ (u5_1) ≤ (n6) ∧ (n6) ≤ 65536) (h4 : 0 ≤ (a3) ∧ (a3) ≤ 65536) (h5 : (u2_1) = 0 ∧ (u2_2) = 0) (k : ∀ (z : Int) (σ : rS) (Dₚ Nₚ : Nat → Nat) (Fₚ : hF) (Aₚ : hA) (cₚ sₚ : Nat), HW V226_Row_Row σ Dₚ Nₚ Fₚ Aₚ → OUT (V226_Row_Row).length D N σE c s Dₚ Nₚ σ cₚ sₚ → SD [4] D Dₚ → SD [4] N Nₚ → SF [(0, 4), (0, 5), (0, 6), (0, 7), (0, 8), (0, 9), (0, 10), (0, 11), (0, 12), (2, 0), (2, 1), (2, 2)] F Fₚ → SA [4] A Aₚ → Fₚ 2 0 = (Dₚ 4 : Int) → ∀ m4 : Int, (Nₚ 4 : Int) = m4 → ∀ y0_12 : Int, Fₚ 0 12 = y0_12 → ∀ y2_1 : Int, Fₚ 2 1 = y2_1 → ∀ y2_2 : Int, Fₚ 2 2 = y2_2 → ∀ v4 : Int → Int, Aₚ 4 = v4 → (inr (z)) → (0 ≤ (z) ∧ (z) ≤ 11) → (0 ≤ (y2_1) ∧ (y2_1) ≤ (m4) ∧ (m4) ≤ 65536) → ((y2_2) = 0) → (IMP ((z) ≠ 0) (IT (TAs (ub8 ((w3))) ((u1_1)) ((a3)) (sc ((w6)) 0 ((u5_1)))) (TAe (ub8 ((w3))) ((u1_1)) ((a3)) (sc ((w6)) 0 ((u5_1)))) (0, []) ((z), (y0_12), []))) → (IMP ((z) = 0) (IT (TAs (ub8 ((w3))) ((u1_1)) ((a3)) (sc ((w6)) 0 ((u5_1)))) (TAe (ub8 ((w3))) ((u1_1)) ((a3)) (sc ((w6)) 0 ((u5_1)))) (0, []) (0, (y0_12), sc ((v4)) 0 ((y2_1))))) → ((z) ≠ 0 ∨ (y0_12) = (u1_1)) → Q (some (I z)) σ cₚ sₚ) : Ew 226 (d + 5) 0 (rargs 0 [.ref (D 0), .ref (D 1), .ref (D 2), I a3]) [] σE c s Q := by
  have O := OUT_refl (n := (V226_Row_Row).length) (D := D) (N := N) (σ := σE) (c := c) (s := s)
  have HE := H
  have r1 : (-2147483648 : Int) ≤ u0_12 ∧ u0_12 ≤ 2147483647 := rngE (show (-2147483648 : Int) ≤ F 0 12 ∧ F 0 12 ≤ 2147483647 from H.krg 0 12 (ltn len_V226_Row_Row_oz_D5cls rfl)) (show F 0 12 = u0_12 from (eu0_12))
  have r2 : (-2147483648 : Int) ≤ u1_1 ∧ u1_1 ≤ 2147483647 := rngE (show (-2147483648 : Int) ≤ F 1 1 ∧ F 1 1 ≤ 2147483647 from H.krg 1 1 (ltn len_V226_Row_Row_oz_D5cls rfl)) (show F 1 1 = u1_1 from (eu1_1))
  have r3 : (-2147483648 : Int) ≤ u2_1 ∧ u2_1 ≤ 2147483647 := rngE (show (-2147483648 : Int) ≤ F 2 1 ∧ F 2 1 ≤ 2147483647 from H.krg 2 1 (ltn len_V226_Row_Row_oz_D5cls rfl)) (show F 2 1 = u2_1 from (eu2_1))
  have r4 : (0 : Int) ≤ u2_2 ∧ u2_2 ≤ 1 := rngE (show (0 : Int) ≤ F 2 2 ∧ F 2 2 ≤ 1 from H.krg 2 2 (ltn len_V226_Row_Row_oz_D5cls rfl)) (show F 2 2 = u2_2 from (eu2_2))
  have r5 : (-2147483648 : Int) ≤ u5_1 ∧ u5_1 ≤ 2147483647 := rngE (show (-2147483648 : Int) ≤ F 5 1 ∧ F 5 1 ≤ 2147483647 from H.krg 5 1 (ltn len_V226_Row_Row_oz_D5cls rfl)) (show F 5 1 = u5_1 from (eu5_1))
  have r6 : (0 : Int) ≤ n3 ∧ n3 ≤ 1000000 := nleE (H.nle 3 (ltn len_V226_Row_Row_oz_D5cls rfl)) (show (N 3 : Int) = n3 from en3)
  have r7 : (0 : Int) ≤ n4 ∧ n4 ≤ 1000000 := nleE (H.nle 4 (ltn len_V226_Row_Row_oz_D5cls rfl)) (show (N 4 : Int) = n4 from en4)
  have r8 : (0 : Int) ≤ n6 ∧ n6 ≤ 1000000 := nleE (H.nle 6 (ltn len_V226_Row_Row_oz_D5cls rfl)) (show (N 6 : Int) = n6 from en6)
  refine Ew_of (pcₚ := 1) (fun _ => x_aload_n rfl rfl) ?_
  refine Ew_of (pcₚ := 2) (fun _ => x_aload_n rfl rfl) ?_
  refine Ew_of (pcₚ := 3) (fun _ => x_aload_n rfl rfl) ?_
  refine Ew_of (pcₚ := 4) (fun _ => x_iload_n rfl rfl) ?_
  have r9 : (-2147483648 : Int) ≤ F 0 5 ∧ F 0 5 ≤ 2147483647 := H.krg 0 5 (ltn len_V226_Row_Row_oz_D5cls rfl)
  have r10 : (-2147483648 : Int) ≤ F 0 7 ∧ F 0 7 ≤ 2147483647 := H.krg 0 7 (ltn len_V226_Row_Row_oz_D5cls rfl)
  refine v_inv H (o := 0) rfl rfl rfl rfl rfl rfl (by rfl) (C222_Row_Row (D := puc 403177984 D) (N := puc 403177984 N) (HW_subc H oz_D5cls_37 oz_D5cls_28) (pf3) (n3) (en3) (F 0 5) (rfl) (F 0 7) (rfl) (u0_12) ((eu0_12)) (u1_1) ((eu1_1)) (show inr (a3) from h0) (fun σ11 F11ₚ A11ₚ Hₚ Oₚ hS11 hA11 y11_0_5 ey11_0_5 y11_0_7 ey11_0_7 y11_0_12 ey11_0_12 pq11_0 pq11_1 pz11_0 => ⟨rfl, ?_⟩))
  refine v_backc (c := c) (s := s) H oz_D5cls_37 oz_D5cls_28 Hₚ Oₚ (fun F11 A11 H Oₚ eF11 eA11 => ?_)
  have O := OUT_trans O Oₚ
  -- Tokens.begin
  have cF11 : SF oz_D5clsl_11 F F11 := SF_trans (SF_refl) (SF_gluc (ι := oz_D5clsl_9) oz_D5cls_28 hS11 eF11 (by decide +kernel)) (any_sub (lₚ := [(0, 4), (0, 5), (0, 6), (0, 7), (0, 12)]) (by decide +kernel))
  have mF11 := SFm_of cF11 oz_D5cls_45
  have cA11 : SA oz_D5clsl_12 A A11 := SA_trans (SA_refl) (SA_gluc (ι := oz_D5clsl_9) oz_D5cls_28 hA11 eA11 (by decide +kernel)) (any_subA (lₚ := []) (by decide +kernel))
  have mA11 := SAm_of cA11 oz_D5cls_46
  have pl11_0 : F11 0 4 = (D 3 : Int) := (eF11 0 4).trans (pq11_0)
  have pl11_1 : F11 0 6 = (D 2 : Int) := (eF11 0 6).trans (pq11_1)
  have r12 : (-2147483648 : Int) ≤ y11_0_5 ∧ y11_0_5 ≤ 2147483647 := rngE (show (-2147483648 : Int) ≤ F11 0 5 ∧ F11 0 5 ≤ 2147483647 from H.krg 0 5 (ltn len_V226_Row_Row_oz_D5cls rfl)) (show F11 0 5 = y11_0_5 from ((eF11 0 5).trans ey11_0_5))
  have r13 : (-2147483648 : Int) ≤ y11_0_7 ∧ y11_0_7 ≤ 2147483647 := rngE (show (-2147483648 : Int) ≤ F11 0 7 ∧ F11 0 7 ≤ 2147483647 from H.krg 0 7 (ltn len_V226_Row_Row_oz_D5cls rfl)) (show F11 0 7 = y11_0_7 from ((eF11 0 7).trans ey11_0_7))
  have r14 : (-2147483648 : Int) ≤ y11_0_12 ∧ y11_0_12 ≤ 2147483647 := rngE (show (-2147483648 : Int) ≤ F11 0 12 ∧ F11 0 12 ≤ 2147483647 from H.krg 0 12 (ltn len_V226_Row_Row_oz_D5cls rfl)) (show F11 0 12 = y11_0_12 from ((eF11 0 12).trans ey11_0_12))
  refine Ew_of (pcₚ := 8) (fun _ => x_iconst rfl) ?_
  refine Ew_of (pcₚ := 10) (fun _ => x_istore rfl) ?_
  refine Ew_of (pcₚ := 11) (fun _ => x_iconst rfl) ?_
  refine Ew_of (pcₚ := 13) (fun _ => x_istore rfl) ?_
  have : ITO (TAs (ub8 ((w3))) ((u1_1)) ((a3)) (sc ((w6)) 0 ((u5_1)))) (TAe (ub8 ((w3))) ((u1_1)) ((a3)) (sc ((w6)) 0 ((u5_1)))) (0, []) (0, sc ((w4)) 0 ((u2_1))) := by rw [sc_nil (b := (u2_1)) (by omega)]; exact ITO_0
  suffices hl13 : ∀ (m : Nat), ∀ (ls : rO) (σ : rS) (D_13 N_13 : Nat → Nat) (c_13 s_13 : Nat) (F_13 : hF) (A_13 : hA) (x13_4 : Int) (x13_5 : Int), rlook ls 0 = some (.ref (D_13 0)) → rlook ls 4 = some (I (x13_4)) → rlook ls 5 = some (I (x13_5)) → HW V226_Row_Row σ D_13 N_13 F_13 A_13 → OUT (V226_Row_Row).length D N σE c s D_13 N_13 σ c_13 s_13 → SD [4] D D_13 → SD [4] N N_13 → SF [(0, 8), (0, 9), (0, 10), (0, 11), (0, 12), (2, 0), (2, 1), (2, 2)] F11 F_13 → SA [4] A11 A_13 → F_13 2 0 = (D_13 4 : Int) → ∀ m13_4 : Int, (N_13 4 : Int) = m13_4 → ∀ y13_2_1 : Int, F_13 2 1 = y13_2_1 → ∀ y13_2_2 : Int, F_13 2 2 = y13_2_2 → ∀ w13_4 : Int → Int, A_13 4 = w13_4 → (inr (x13_4)) → (inr (x13_5)) → ((0) ≤ (x13_5)) → ((x13_5) ≤ (0) ∨ (x13_5) ≤ ((y11_0_5))) → (0 ≤ (x13_4) ∧ (x13_4) ≤ (y11_0_5)) → ((x13_5) ≤ (x13_4)) → (0 ≤ (y13_2_1) ∧ (y13_2_1) ≤ (m13_4) ∧ (m13_4) ≤ 65536) → ((y13_2_1) ≤ (a3)) → (0 ≤ (y11_0_5) ∧ (y11_0_5) ≤ (n3)) → ((y13_2_2) = 0) → ((y11_0_7) = (a3) ∧ (y11_0_5) = (u1_1)) → (ITO (TAs (ub8 ((w3))) ((u1_1)) ((a3)) (sc ((w6)) 0 ((u5_1)))) (TAe (ub8 ((w3))) ((u1_1)) ((a3)) (sc ((w6)) 0 ((u5_1)))) (0, []) ((x13_4), sc ((w13_4)) 0 ((y13_2_1)))) → (((y11_0_5)) - (x13_5)).toNat = m → Ew 226 (d + 5) 13 ls [] σ c_13 s_13 Q from
    hl13 _ _ _ _ _ _ _ _ _ (0) (0) (rk_o (rk_o (rfl) rfl rfl) rfl rfl) (rk_o (rk_s) rfl rfl) (rk_s) H O (SD_refl) (SD_refl) (SF_refl) (SA_refl) ((((show F11 2 0 = F 2 0 from (eF11 2 0).trans (hS11 2 0 rfl)))).trans (pf4)) (n4) (en4) (u2_1) ((((show F11 2 1 = F 2 1 from (eF11 2 1).trans (hS11 2 1 rfl))).trans (eu2_1))) (u2_2) ((((show F11 2 2 = F 2 2 from (eF11 2 2).trans (hS11 2 2 rfl))).trans (eu2_2))) (w4) (((show A11 4 = A 4 from (eA11 4))).trans (ew4)) (show inr (0) from q_2) (show inr (0) from q_2) (show (0) ≤ (0) from q_1) (show (0) ≤ (0) ∨ (0) ≤ ((y11_0_5)) from q_5) (show 0 ≤ (0) ∧ (0) ≤ (y11_0_5) from q_3380 h1 pz11_0) (show (0) ≤ (0) from q_1) (show 0 ≤ (u2_1) ∧ (u2_1) ≤ (n4) ∧ (n4) ≤ 65536 from h2) (show (u2_1) ≤ (a3) from q_3379 h4 h5) (show 0 ≤ (y11_0_5) ∧ (y11_0_5) ≤ (n3) from q_3378 h1 pz11_0) (show (u2_2) = 0 from q_3377 h5) (show (y11_0_7) = (a3) ∧ (y11_0_5) = (u1_1) from q_3376 pz11_0) (show ITO (TAs (ub8 ((w3))) ((u1_1)) ((a3)) (sc ((w6)) 0 ((u5_1)))) (TAe (ub8 ((w3))) ((u1_1)) ((a3)) (sc ((w6)) 0 ((u5_1)))) (0, []) ((0), sc ((w4)) 0 ((u2_1))) by assumption) rfl
  as_aux_lemma =>
  intro m
  induction m using Nat.strongRecOn with
  | _ m ih13 =>
    intro ls σ D_13 N_13 c_13 s_13 F_13 A_13 x13_4 x13_5 l13_0 l13_4 l13_5 H O hD_13 hN_13 hS_13 hA_13 pm13_4 m13_4 em13_4 y13_2_1 ey13_2_1 y13_2_2 ey13_2_2 w13_4 ew13_4 j13_0 j13_1 j13_2 j13_3 j13_4 j13_5 j13_6 j13_7 j13_8 j13_9 j13_10 j13_11 hm13
    have cF_13 : SF oz_D5clsl_11 F F_13 := SF_trans (cF11) hS_13 (any_sub (by decide +kernel))
    have mF_13 := SFm_of cF_13 oz_D5cls_45
    have cA_13 : SA oz_D5clsl_12 A A_13 := SA_trans (cA11) hA_13 (any_subA (by decide +kernel))
    have mA_13 := SAm_of cA_13 oz_D5cls_46
    have cD_13 : SD oz_D5clsl_12 D D_13 := SD_trans (SD_refl) hD_13 (any_subA (by decide +kernel))
    have mD_13 := SDm_of cD_13 oz_D5cls_46
    have cN_13 : SD oz_D5clsl_12 N N_13 := SD_trans (SD_refl) hN_13 (any_subA (by decide +kernel))
    have mN_13 := SDm_of cN_13 oz_D5cls_46
    have pf_13_0_4 : F_13 0 4 = (D_13 3 : Int) := (hS_13 0 4 rfl).trans ((pl11_0).trans (congrArg (fun q : Nat => (q : Int)) (hD_13 3 rfl).symm))
    have pf_13_0_6 : F_13 0 6 = (D_13 2 : Int) := (hS_13 0 6 rfl).trans ((pl11_1).trans (congrArg (fun q : Nat => (q : Int)) (hD_13 2 rfl).symm))
    have r15 : (0 : Int) ≤ m13_4 ∧ m13_4 ≤ 1000000 := nleE (H.nle 4 (ltn len_V226_Row_Row_oz_D5cls rfl)) (show (N_13 4 : Int) = m13_4 from em13_4)
    have r16 : (-2147483648 : Int) ≤ y13_2_1 ∧ y13_2_1 ≤ 2147483647 := rngE (show (-2147483648 : Int) ≤ F_13 2 1 ∧ F_13 2 1 ≤ 2147483647 from H.krg 2 1 (ltn len_V226_Row_Row_oz_D5cls rfl)) (show F_13 2 1 = y13_2_1 from (ey13_2_1))
    have r17 : (0 : Int) ≤ y13_2_2 ∧ y13_2_2 ≤ 1 := rngE (show (0 : Int) ≤ F_13 2 2 ∧ F_13 2 2 ≤ 1 from H.krg 2 2 (ltn len_V226_Row_Row_oz_D5cls rfl)) (show F_13 2 2 = y13_2_2 from (ey13_2_2))
    have j13_i : ITO (TAs (ub8 ((w3))) ((u1_1)) ((a3)) (sc ((w6)) 0 ((u5_1)))) (TAe (ub8 ((w3))) ((u1_1)) ((a3)) (sc ((w6)) 0 ((u5_1)))) (0, []) ((x13_4), sc ((w13_4)) 0 ((y13_2_1))) := by assumption
    obtain ⟨q4, hq4⟩ : ∃ q : Int, q = (x13_4) := ⟨_, rfl⟩
    obtain ⟨CX, hCX⟩ : ∃ q : List Int, q = sc ((w13_4)) 0 ((y13_2_1)) := ⟨_, rfl⟩
    have j13_x : ITO (TAs (ub8 ((w3))) ((u1_1)) ((a3)) (sc ((w6)) 0 ((u5_1)))) (TAe (ub8 ((w3))) ((u1_1)) ((a3)) (sc ((w6)) 0 ((u5_1)))) (0, []) (q4, CX) := by rw [hq4, hCX]; exact j13_i
    have hCl : (CX.length : Int) = (y13_2_1) := by rw [hCX, sc_lenI (by omega)]; omega
    refine Ew_of (pcₚ := 15) (fun _ => x_iload rfl l13_5) ?_
    refine Ew_of (pcₚ := 16) (fun _ => x_aload_n rfl l13_0) ?_
    refine v_g H (o := 0) (v := I (y11_0_5)) rfl rfl rfl rfl rfl (congrArg (fun z : Int => I z) (((hS_13 0 5 rfl).trans ((eF11 0 5).trans ey11_0_5)) : F_13 0 5 = y11_0_5)) ?_
    refine w_icmpge (t := 171) rfl rfl (show inr (x13_5) from j13_1) (show inr (y11_0_5) from q_512 j13_8 r12) (fun b18 => ?_) (fun b18 => ?_)
    · refine Ew_of (pcₚ := 172) (fun _ => x_aload_n rfl l13_0) ?_
      refine Ew_of (pcₚ := 173) (fun _ => x_iconst rfl) ?_
      refine Ew_of (pcₚ := 174) (fun _ => x_aload_n rfl l13_0) ?_
      refine v_g H (o := 0) (v := I (y11_0_5)) rfl rfl rfl rfl rfl (congrArg (fun z : Int => I z) (((hS_13 0 5 rfl).trans ((eF11 0 5).trans ey11_0_5)) : F_13 0 5 = y11_0_5)) ?_
      have r19 : (-2147483648 : Int) ≤ F_13 0 12 ∧ F_13 0 12 ≤ 2147483647 := H.krg 0 12 (ltn len_V226_Row_Row_oz_D5cls rfl)
      refine v_inv H (o := 0) rfl rfl rfl rfl rfl rfl (by rfl) (C221 (D := puc 0 D_13) (N := puc 0 N_13) (HW_subc H oz_D5cls_38 oz_D5cls_10) (F_13 0 12) (rfl) (show inr (0) from q_2) (show inr (y11_0_5) from q_512 j13_8 r12) (fun z20 σ20 F20ₚ A20ₚ Hₚ Oₚ hS20 hA20 y20_0_12 ey20_0_12 pz20_0 pz20_1 pz20_2 => ⟨rfl, ?_⟩))
      refine v_backc (c := c_13) (s := s_13) H oz_D5cls_38 oz_D5cls_10 Hₚ Oₚ (fun F20 A20 H Oₚ eF20 eA20 => ?_)
      have O := OUT_trans O Oₚ
      -- Tokens.fail
      have cF20 : SF oz_D5clsl_11 F F20 := SF_trans (cF_13) (SF_gluc (ι := oz_D5clsl_3) oz_D5cls_10 hS20 eF20 (by decide +kernel)) (any_sub (lₚ := [(0, 12)]) (by decide +kernel))
      have mF20 := SFm_of cF20 oz_D5cls_45
      have cA20 : SA oz_D5clsl_12 A A20 := SA_trans (cA_13) (SA_gluc (ι := oz_D5clsl_3) oz_D5cls_10 hA20 eA20 (by decide +kernel)) (any_subA (lₚ := []) (by decide +kernel))
      have mA20 := SAm_of cA20 oz_D5cls_46
      have r21 : (-2147483648 : Int) ≤ y20_0_12 ∧ y20_0_12 ≤ 2147483647 := rngE (show (-2147483648 : Int) ≤ F20 0 12 ∧ F20 0 12 ≤ 2147483647 from H.krg 0 12 (ltn len_V226_Row_Row_oz_D5cls rfl)) (show F20 0 12 = y20_0_12 from ((eF20 0 12).trans ey20_0_12))
      have : IMP ((z20) ≠ 0) (IT (TAs (ub8 ((w3))) ((u1_1)) ((a3)) (sc ((w6)) 0 ((u5_1)))) (TAe (ub8 ((w3))) ((u1_1)) ((a3)) (sc ((w6)) 0 ((u5_1)))) (0, []) ((z20), (y20_0_12), [])) := fun z => absurd (by omega) z
      have : IMP ((z20) = 0) (IT (TAs (ub8 ((w3))) ((u1_1)) ((a3)) (sc ((w6)) 0 ((u5_1)))) (TAe (ub8 ((w3))) ((u1_1)) ((a3)) (sc ((w6)) 0 ((u5_1)))) (0, []) (0, (y20_0_12), sc ((w13_4)) 0 ((y13_2_1)))) := fun z => by have h := ITO_e j13_x (TAe_0 (by omega) rfl (show (y20_0_12) = _ by omega)); rw [hCX] at h; exact h
      exact w_ireturn rfl (k (z20) _ _ _ _ _ _ _ H O (cD_13) (cN_13) (cF20) (cA20) ((((show F20 2 0 = F_13 2 0 from (eF20 2 0)))).trans (pm13_4)) (m13_4) (em13_4) (y20_0_12) (((eF20 0 12).trans ey20_0_12)) (y13_2_1) ((((show F20 2 1 = F_13 2 1 from (eF20 2 1))).trans (ey13_2_1))) (y13_2_2) ((((show F20 2 2 = F_13 2 2 from (eF20 2 2))).trans (ey13_2_2))) (w13_4) (((show A20 4 = A_13 4 from (eA20 4))).trans (ew13_4)) (show inr (z20) from pz20_0) (show 0 ≤ (z20) ∧ (z20) ≤ 11 from q_3364 pz20_1) (show 0 ≤ (y13_2_1) ∧ (y13_2_1) ≤ (m13_4) ∧ (m13_4) ≤ 65536 from j13_6) (show (y13_2_2) = 0 from j13_9) (show IMP ((z20) ≠ 0) (IT (TAs (ub8 ((w3))) ((u1_1)) (a3) (sc ((w6)) 0 ((u5_1)))) (TAe (ub8 ((w3))) ((u1_1)) (a3) (sc ((w6)) 0 ((u5_1)))) (0, []) ((z20), (y20_0_12), [])) by assumption) (show IMP ((z20) = 0) (IT (TAs (ub8 ((w3))) ((u1_1)) (a3) (sc ((w6)) 0 ((u5_1)))) (TAe (ub8 ((w3))) ((u1_1)) (a3) (sc ((w6)) 0 ((u5_1)))) (0, []) (0, (y20_0_12), sc ((w13_4)) 0 ((y13_2_1)))) by assumption) (show (z20) ≠ 0 ∨ (y20_0_12) = (u1_1) from q_3381 j13_10 pz20_2))
    · refine Ew_of (pcₚ := 24) (fun _ => x_iload rfl l13_4) ?_
      refine Ew_of (pcₚ := 25) (fun _ => x_aload_n rfl l13_0) ?_
      refine v_g H (o := 0) (v := I (y11_0_5)) rfl rfl rfl rfl rfl (congrArg (fun z : Int => I z) (((hS_13 0 5 rfl).trans ((eF11 0 5).trans ey11_0_5)) : F_13 0 5 = y11_0_5)) ?_
      refine w_icmpge (t := 171) rfl rfl (show inr (x13_4) from j13_0) (show inr (y11_0_5) from q_512 j13_8 r12) (fun b22 => ?_) (fun b22 => ?_)
      · refine Ew_of (pcₚ := 172) (fun _ => x_aload_n rfl l13_0) ?_
        refine Ew_of (pcₚ := 173) (fun _ => x_iconst rfl) ?_
        refine Ew_of (pcₚ := 174) (fun _ => x_aload_n rfl l13_0) ?_
        refine v_g H (o := 0) (v := I (y11_0_5)) rfl rfl rfl rfl rfl (congrArg (fun z : Int => I z) (((hS_13 0 5 rfl).trans ((eF11 0 5).trans ey11_0_5)) : F_13 0 5 = y11_0_5)) ?_
        have r23 : (-2147483648 : Int) ≤ F_13 0 12 ∧ F_13 0 12 ≤ 2147483647 := H.krg 0 12 (ltn len_V226_Row_Row_oz_D5cls rfl)
        refine v_inv H (o := 0) rfl rfl rfl rfl rfl rfl (by rfl) (C221 (D := puc 0 D_13) (N := puc 0 N_13) (HW_subc H oz_D5cls_38 oz_D5cls_10) (F_13 0 12) (rfl) (show inr (0) from q_2) (show inr (y11_0_5) from q_512 j13_8 r12) (fun z24 σ24 F24ₚ A24ₚ Hₚ Oₚ hS24 hA24 y24_0_12 ey24_0_12 pz24_0 pz24_1 pz24_2 => ⟨rfl, ?_⟩))
        refine v_backc (c := c_13) (s := s_13) H oz_D5cls_38 oz_D5cls_10 Hₚ Oₚ (fun F24 A24 H Oₚ eF24 eA24 => ?_)
        have O := OUT_trans O Oₚ
        -- Tokens.fail
        have cF24 : SF oz_D5clsl_11 F F24 := SF_trans (cF_13) (SF_gluc (ι := oz_D5clsl_3) oz_D5cls_10 hS24 eF24 (by decide +kernel)) (any_sub (lₚ := [(0, 12)]) (by decide +kernel))
        have mF24 := SFm_of cF24 oz_D5cls_45
        have cA24 : SA oz_D5clsl_12 A A24 := SA_trans (cA_13) (SA_gluc (ι := oz_D5clsl_3) oz_D5cls_10 hA24 eA24 (by decide +kernel)) (any_subA (lₚ := []) (by decide +kernel))
        have mA24 := SAm_of cA24 oz_D5cls_46
        have r25 : (-2147483648 : Int) ≤ y24_0_12 ∧ y24_0_12 ≤ 2147483647 := rngE (show (-2147483648 : Int) ≤ F24 0 12 ∧ F24 0 12 ≤ 2147483647 from H.krg 0 12 (ltn len_V226_Row_Row_oz_D5cls rfl)) (show F24 0 12 = y24_0_12 from ((eF24 0 12).trans ey24_0_12))
        have : IMP ((z24) ≠ 0) (IT (TAs (ub8 ((w3))) ((u1_1)) ((a3)) (sc ((w6)) 0 ((u5_1)))) (TAe (ub8 ((w3))) ((u1_1)) ((a3)) (sc ((w6)) 0 ((u5_1)))) (0, []) ((z24), (y24_0_12), [])) := fun z => absurd (by omega) z
        have : IMP ((z24) = 0) (IT (TAs (ub8 ((w3))) ((u1_1)) ((a3)) (sc ((w6)) 0 ((u5_1)))) (TAe (ub8 ((w3))) ((u1_1)) ((a3)) (sc ((w6)) 0 ((u5_1)))) (0, []) (0, (y24_0_12), sc ((w13_4)) 0 ((y13_2_1)))) := fun z => by have h := ITO_e j13_x (TAe_0 (by omega) rfl (show (y24_0_12) = _ by omega)); rw [hCX] at h; exact h
        exact w_ireturn rfl (k (z24) _ _ _ _ _ _ _ H O (cD_13) (cN_13) (cF24) (cA24) ((((show F24 2 0 = F_13 2 0 from (eF24 2 0)))).trans (pm13_4)) (m13_4) (em13_4) (y24_0_12) (((eF24 0 12).trans ey24_0_12)) (y13_2_1) ((((show F24 2 1 = F_13 2 1 from (eF24 2 1))).trans (ey13_2_1))) (y13_2_2) ((((show F24 2 2 = F_13 2 2 from (eF24 2 2))).trans (ey13_2_2))) (w13_4) (((show A24 4 = A_13 4 from (eA24 4))).trans (ew13_4)) (show inr (z24) from pz24_0) (show 0 ≤ (z24) ∧ (z24) ≤ 11 from q_3364 pz24_1) (show 0 ≤ (y13_2_1) ∧ (y13_2_1) ≤ (m13_4) ∧ (m13_4) ≤ 65536 from j13_6) (show (y13_2_2) = 0 from j13_9) (show IMP ((z24) ≠ 0) (IT (TAs (ub8 ((w3))) ((u1_1)) (a3) (sc ((w6)) 0 ((u5_1)))) (TAe (ub8 ((w3))) ((u1_1)) (a3) (sc ((w6)) 0 ((u5_1)))) (0, []) ((z24), (y24_0_12), [])) by assumption) (show IMP ((z24) = 0) (IT (TAs (ub8 ((w3))) ((u1_1)) (a3) (sc ((w6)) 0 ((u5_1)))) (TAe (ub8 ((w3))) ((u1_1)) (a3) (sc ((w6)) 0 ((u5_1)))) (0, []) (0, (y24_0_12), sc ((w13_4)) 0 ((y13_2_1)))) by assumption) (show (z24) ≠ 0 ∨ (y24_0_12) = (u1_1) from q_3381 j13_10 pz24_2))
      · refine Ew_of (pcₚ := 32) (fun _ => x_aload_n rfl l13_0) ?_
        refine v_g H (o := 0) (v := I (y11_0_5)) rfl rfl rfl rfl rfl (congrArg (fun z : Int => I z) (((hS_13 0 5 rfl).trans ((eF11 0 5).trans ey11_0_5)) : F_13 0 5 = y11_0_5)) ?_
        refine Ew_of (pcₚ := 37) (fun _ => x_iload rfl l13_4) ?_
        refine w_isub rfl ?_
        refine Ew_of (pcₚ := 39) (fun _ => x_iconst rfl) ?_
        refine w_icmpge (t := 52) rfl rfl (show inr ((y11_0_5 - x13_4)) from q_3382 b22 j13_4 r12) (show inr (4) from q_216) (fun b26 => ?_) (fun b26 => ?_)
        · refine Ew_of (pcₚ := 53) (fun _ => x_aload_n rfl l13_0) ?_
          refine v_g H (o := 0) (v := .ref (D_13 3)) rfl rfl rfl rfl rfl (vrf (pf_13_0_4)) ?_
          refine Ew_of (pcₚ := 58) (fun _ => x_iload rfl l13_4) ?_
          refine Ew_of (pcₚ := 59) (fun _ => x_aload_n rfl l13_0) ?_
          refine v_g H (o := 0) (v := I (y11_0_5)) rfl rfl rfl rfl rfl (congrArg (fun z : Int => I z) (((hS_13 0 5 rfl).trans ((eF11 0 5).trans ey11_0_5)) : F_13 0 5 = y11_0_5)) ?_
          refine w_stat25 rfl rfl (by rfl) (C43_Br (D := puc 3 D_13) (N := puc 3 N_13) (HW_subc H oz_D5cls_39 oz_D5cls_35) (n3) ((congrArg (fun q : Nat => (q : Int)) (mN_13 3 rfl)).trans (en3)) (w3) ((funext (mA_13 3 rfl)).trans (ew3)) (show inr (x13_4) from j13_0) (show inr (y11_0_5) from q_512 j13_8 r12) (show 0 ≤ (x13_4) ∧ 0 ≤ (y11_0_5) ∧ (y11_0_5) ≤ (n3) ∧ (n3) ≤ 65536 ∧ (x13_4) ≤ 200000 from q_3383 b26 h1 j13_4 j13_8 r6) (fun z27 σ27 F27ₚ A27ₚ Hₚ Oₚ hS27 hA27 pz27_0 pz27_1 pz27_2 => ⟨rretB rfl pz27_0, ?_⟩))
          refine v_backc (c := c_13) (s := s_13) H oz_D5cls_39 oz_D5cls_35 Hₚ Oₚ (fun F27 A27 H Oₚ eF27 eA27 => ?_)
          have O := OUT_trans O Oₚ
          -- PackHouse.isSpare
          have cF27 : SF oz_D5clsl_11 F F27 := SF_trans (cF_13) (SF_gluc (ι := oz_D5clsl_5) oz_D5cls_35 hS27 eF27 (by decide +kernel)) (any_sub (lₚ := []) (by decide +kernel))
          have mF27 := SFm_of cF27 oz_D5cls_45
          have cA27 : SA oz_D5clsl_12 A A27 := SA_trans (cA_13) (SA_gluc (ι := oz_D5clsl_5) oz_D5cls_35 hA27 eA27 (by decide +kernel)) (any_subA (lₚ := []) (by decide +kernel))
          have mA27 := SAm_of cA27 oz_D5cls_46
          have hsp := pz27_2
          unfold SPQ at hsp
          rw [← nvl_ub] at hsp
          rw [← hq4] at hsp
          refine w_ifeq (t := 98) rfl rfl (show inr (z27) from q_138 pz27_0) (fun b28 => ?_) (fun b28 => ?_)
          · refine Ew_of (pcₚ := 99) (fun _ => x_aload_n rfl l13_0) ?_
            refine Ew_of (pcₚ := 101) (fun _ => x_iload rfl l13_4) ?_
            have r29 : (-2147483648 : Int) ≤ F_13 0 8 ∧ F_13 0 8 ≤ 2147483647 := rngE (show (-2147483648 : Int) ≤ F27 0 8 ∧ F27 0 8 ≤ 2147483647 from H.krg 0 8 (ltn len_V226_Row_Row_oz_D5cls rfl)) (show F27 0 8 = F_13 0 8 from ((show F27 0 8 = F_13 0 8 from (eF27 0 8))))
            have r30 : (-2147483648 : Int) ≤ F_13 0 9 ∧ F_13 0 9 ≤ 2147483647 := rngE (show (-2147483648 : Int) ≤ F27 0 9 ∧ F27 0 9 ≤ 2147483647 from H.krg 0 9 (ltn len_V226_Row_Row_oz_D5cls rfl)) (show F27 0 9 = F_13 0 9 from ((show F27 0 9 = F_13 0 9 from (eF27 0 9))))
            have r31 : (-2147483648 : Int) ≤ F_13 0 10 ∧ F_13 0 10 ≤ 2147483647 := rngE (show (-2147483648 : Int) ≤ F27 0 10 ∧ F27 0 10 ≤ 2147483647 from H.krg 0 10 (ltn len_V226_Row_Row_oz_D5cls rfl)) (show F27 0 10 = F_13 0 10 from ((show F27 0 10 = F_13 0 10 from (eF27 0 10))))
            have r32 : (-2147483648 : Int) ≤ F_13 0 12 ∧ F_13 0 12 ≤ 2147483647 := rngE (show (-2147483648 : Int) ≤ F27 0 12 ∧ F27 0 12 ≤ 2147483647 from H.krg 0 12 (ltn len_V226_Row_Row_oz_D5cls rfl)) (show F27 0 12 = F_13 0 12 from ((show F27 0 12 = F_13 0 12 from (eF27 0 12))))
            refine v_inv H (o := 0) rfl rfl rfl rfl rfl rfl (by rfl) (C227 (D := puc 537396736 D_13) (N := puc 537396736 N_13) (HW_subc H oz_D5cls_40 oz_D5cls_47) ((((show F27 0 4 = F_13 0 4 from (eF27 0 4)))).trans (pf_13_0_4)) ((((show F27 0 6 = F_13 0 6 from (eF27 0 6)))).trans (pf_13_0_6)) ((((show F27 2 0 = F_13 2 0 from (eF27 2 0)))).trans (pm13_4)) (n3) ((congrArg (fun q : Nat => (q : Int)) (mN_13 3 rfl)).trans (en3)) (m13_4) (em13_4) (y11_0_5) (((((show F27 0 5 = F_13 0 5 from (eF27 0 5))).trans (hS_13 0 5 rfl)).trans ((eF11 0 5).trans ey11_0_5))) (F_13 0 8) (((show F27 0 8 = F_13 0 8 from (eF27 0 8)))) (F_13 0 9) (((show F27 0 9 = F_13 0 9 from (eF27 0 9)))) (F_13 0 10) (((show F27 0 10 = F_13 0 10 from (eF27 0 10)))) (F_13 0 12) (((show F27 0 12 = F_13 0 12 from (eF27 0 12)))) (y13_2_1) ((((show F27 2 1 = F_13 2 1 from (eF27 2 1))).trans (ey13_2_1))) (w3) ((funext (mA27 3 rfl)).trans (ew3)) (show inr (x13_4) from j13_0) (show 0 ≤ (y11_0_5) ∧ (y11_0_5) ≤ (n3) ∧ (n3) ≤ 65536 from q_3385 h1 j13_8) (show 0 ≤ (x13_4) ∧ (x13_4) + 4 ≤ (y11_0_5) from q_3384 b26 j13_4) (show 0 ≤ (y13_2_1) ∧ (y13_2_1) ≤ (m13_4) ∧ (m13_4) ≤ 65536 from j13_6) (fun z33 σ33 F33ₚ A33ₚ Hₚ Oₚ hS33 hA33 y33_0_8 ey33_0_8 y33_0_9 ey33_0_9 y33_0_10 ey33_0_10 y33_0_12 ey33_0_12 pz33_0 pz33_1 pz33_2 pz33_3 pz33_4 pz33_5 => ⟨rfl, ?_⟩))
            refine v_backc (c := c_13) (s := s_13) H oz_D5cls_40 oz_D5cls_47 Hₚ Oₚ (fun F33 A33 H Oₚ eF33 eA33 => ?_)
            have O := OUT_trans O Oₚ
            -- Tokens.unpackHead
            have cF33 : SF oz_D5clsl_11 F F33 := SF_trans (cF27) (SF_gluc (ι := oz_D5clsl_13) oz_D5cls_47 hS33 eF33 (by decide +kernel)) (any_sub (lₚ := [(0, 8), (0, 9), (0, 10), (0, 12)]) (by decide +kernel))
            have mF33 := SFm_of cF33 oz_D5cls_45
            have cA33 : SA oz_D5clsl_12 A A33 := SA_trans (cA27) (SA_gluc (ι := oz_D5clsl_13) oz_D5cls_47 hA33 eA33 (by decide +kernel)) (any_subA (lₚ := []) (by decide +kernel))
            have mA33 := SAm_of cA33 oz_D5cls_46
            have r34 : (-2147483648 : Int) ≤ y33_0_8 ∧ y33_0_8 ≤ 2147483647 := rngE (show (-2147483648 : Int) ≤ F33 0 8 ∧ F33 0 8 ≤ 2147483647 from H.krg 0 8 (ltn len_V226_Row_Row_oz_D5cls rfl)) (show F33 0 8 = y33_0_8 from ((eF33 0 8).trans ey33_0_8))
            have r35 : (-2147483648 : Int) ≤ y33_0_9 ∧ y33_0_9 ≤ 2147483647 := rngE (show (-2147483648 : Int) ≤ F33 0 9 ∧ F33 0 9 ≤ 2147483647 from H.krg 0 9 (ltn len_V226_Row_Row_oz_D5cls rfl)) (show F33 0 9 = y33_0_9 from ((eF33 0 9).trans ey33_0_9))
            have r36 : (-2147483648 : Int) ≤ y33_0_10 ∧ y33_0_10 ≤ 2147483647 := rngE (show (-2147483648 : Int) ≤ F33 0 10 ∧ F33 0 10 ≤ 2147483647 from H.krg 0 10 (ltn len_V226_Row_Row_oz_D5cls rfl)) (show F33 0 10 = y33_0_10 from ((eF33 0 10).trans ey33_0_10))
            have r37 : (-2147483648 : Int) ≤ y33_0_12 ∧ y33_0_12 ≤ 2147483647 := rngE (show (-2147483648 : Int) ≤ F33 0 12 ∧ F33 0 12 ≤ 2147483647 from H.krg 0 12 (ltn len_V226_Row_Row_oz_D5cls rfl)) (show F33 0 12 = y33_0_12 from ((eF33 0 12).trans ey33_0_12))
            have hhd := pz33_4
            have hhm := pz33_5
            rw [← hq4] at hhd hhm
            try rw [show (y11_0_5) = (u1_1) by omega] at hhd
            refine Ew_of (pcₚ := 106) (fun _ => x_istore rfl) ?_
            have hc124 : ∀ (tc124_0 : Int), ∀ (ls : rO) (σ : rS) (D_c124 N_c124 : Nat → Nat) (c_c124 s_c124 : Nat) (F_c124 : hF) (A_c124 : hA) , rlook ls 0 = some (.ref (D_c124 0)) → rlook ls 4 = some (I (x13_4)) → rlook ls 5 = some (I (x13_5)) → HW V226_Row_Row σ D_c124 N_c124 F_c124 A_c124 → OUT (V226_Row_Row).length D N σE c s D_c124 N_c124 σ c_c124 s_c124 → SD [4] D_13 D_c124 → SD [4] N_13 N_c124 → SF [(0, 11), (0, 12), (2, 0), (2, 1), (2, 2)] F33 F_c124 → SA [4] A33 A_c124 → F_c124 2 0 = (D_c124 4 : Int) → ∀ mc124_4 : Int, (N_c124 4 : Int) = mc124_4 → ∀ yc124_0_12 : Int, F_c124 0 12 = yc124_0_12 → ∀ yc124_2_1 : Int, F_c124 2 1 = yc124_2_1 → ∀ yc124_2_2 : Int, F_c124 2 2 = yc124_2_2 → ∀ wc124_4 : Int → Int, A_c124 4 = wc124_4 → (inr (tc124_0)) → (0 ≤ (tc124_0) ∧ (tc124_0) ≤ 9) → (0 ≤ (yc124_2_1) ∧ (yc124_2_1) ≤ (mc124_4) ∧ (mc124_4) ≤ 65536) → ((yc124_2_1) ≤ (a3)) → (0 ≤ (y11_0_5) ∧ (y11_0_5) ≤ (n3)) → ((yc124_2_2) = 0) → ((y11_0_7) = (a3) ∧ (y11_0_5) = (u1_1)) → ((tc124_0) = 0 → (x13_4) + 4 ≤ (yc124_0_12) ∧ (yc124_0_12) ≤ (y11_0_5) ∧ 0 ≤ (y33_0_10) ∧ (y33_0_10) ≤ (yc124_2_1)) → ((tc124_0) = 0 → andI ((y33_0_8)) 8 = 0 ∨ (x13_4) + 14 ≤ (y11_0_5)) → (IMP ((tc124_0) = 0) (∃ qp, THd (ub8 ((w3))) ((u1_1)) (q4) 0 qp ((y33_0_8)) ((y33_0_9)) ∧ (y33_0_10) = (CX.length : Int) ∧ TRB (ub8 ((w3))) ((u1_1)) ((a3)) ((y33_0_8)) ((y33_0_9)) (CX.length : Int) (sc ((w6)) 0 ((u5_1))) qp CX (0, 0, (yc124_0_12), sc ((wc124_4)) 0 ((yc124_2_1))) ∧ nvl (ub8 ((w3))) (q4) 4 = 407708164)) → (IMP ((tc124_0) ≠ 0) (TAe (ub8 ((w3))) ((u1_1)) ((a3)) (sc ((w6)) 0 ((u5_1))) (q4, CX) ((tc124_0), (yc124_0_12), []))) → Ew 226 (d + 5) 124 ls [I (tc124_0)] σ c_c124 s_c124 Q := by
             as_aux_lemma =>
              intro tc124_0 ls σ D_c124 N_c124 c_c124 s_c124 F_c124 A_c124  lc124_0 lc124_4 lc124_5 H O hD_c124 hN_c124 hS_c124 hA_c124 pmc124_4 mc124_4 emc124_4 yc124_0_12 eyc124_0_12 yc124_2_1 eyc124_2_1 yc124_2_2 eyc124_2_2 wc124_4 ewc124_4 jc124_0 jc124_1 jc124_2 jc124_3 jc124_4 jc124_5 jc124_6 jc124_7 jc124_8 jc124_9 jc124_10
              have cF_c124 : SF oz_D5clsl_11 F F_c124 := SF_trans (cF33) hS_c124 (any_sub (by decide +kernel))
              have mF_c124 := SFm_of cF_c124 oz_D5cls_45
              have cA_c124 : SA oz_D5clsl_12 A A_c124 := SA_trans (cA33) hA_c124 (any_subA (by decide +kernel))
              have mA_c124 := SAm_of cA_c124 oz_D5cls_46
              have cD_c124 : SD oz_D5clsl_12 D D_c124 := SD_trans (cD_13) hD_c124 (any_subA (by decide +kernel))
              have mD_c124 := SDm_of cD_c124 oz_D5cls_46
              have cN_c124 : SD oz_D5clsl_12 N N_c124 := SD_trans (cN_13) hN_c124 (any_subA (by decide +kernel))
              have mN_c124 := SDm_of cN_c124 oz_D5cls_46
              have pf_c124_0_4 : F_c124 0 4 = (D_c124 3 : Int) := (hS_c124 0 4 rfl).trans ((((((show F33 0 4 = F27 0 4 from (eF33 0 4).trans (hS33 0 4 rfl))).trans ((show F27 0 4 = F_13 0 4 from (eF27 0 4))))).trans (pf_13_0_4)).trans (congrArg (fun q : Nat => (q : Int)) (hD_c124 3 rfl).symm))
              have pf_c124_0_6 : F_c124 0 6 = (D_c124 2 : Int) := (hS_c124 0 6 rfl).trans ((((((show F33 0 6 = F27 0 6 from (eF33 0 6).trans (hS33 0 6 rfl))).trans ((show F27 0 6 = F_13 0 6 from (eF27 0 6))))).trans (pf_13_0_6)).trans (congrArg (fun q : Nat => (q : Int)) (hD_c124 2 rfl).symm))
              have r38 : (0 : Int) ≤ mc124_4 ∧ mc124_4 ≤ 1000000 := nleE (H.nle 4 (ltn len_V226_Row_Row_oz_D5cls rfl)) (show (N_c124 4 : Int) = mc124_4 from emc124_4)
              have r39 : (-2147483648 : Int) ≤ yc124_0_12 ∧ yc124_0_12 ≤ 2147483647 := rngE (show (-2147483648 : Int) ≤ F_c124 0 12 ∧ F_c124 0 12 ≤ 2147483647 from H.krg 0 12 (ltn len_V226_Row_Row_oz_D5cls rfl)) (show F_c124 0 12 = yc124_0_12 from (eyc124_0_12))
              have r40 : (-2147483648 : Int) ≤ yc124_2_1 ∧ yc124_2_1 ≤ 2147483647 := rngE (show (-2147483648 : Int) ≤ F_c124 2 1 ∧ F_c124 2 1 ≤ 2147483647 from H.krg 2 1 (ltn len_V226_Row_Row_oz_D5cls rfl)) (show F_c124 2 1 = yc124_2_1 from (eyc124_2_1))
              have r41 : (0 : Int) ≤ yc124_2_2 ∧ yc124_2_2 ≤ 1 := rngE (show (0 : Int) ≤ F_c124 2 2 ∧ F_c124 2 2 ≤ 1 from H.krg 2 2 (ltn len_V226_Row_Row_oz_D5cls rfl)) (show F_c124 2 2 = yc124_2_2 from (eyc124_2_2))
              have h124y : IMP ((tc124_0) = 0) (∃ qp, THd (ub8 ((w3))) ((u1_1)) (q4) 0 qp ((y33_0_8)) ((y33_0_9)) ∧ (y33_0_10) = (CX.length : Int) ∧ TRB (ub8 ((w3))) ((u1_1)) ((a3)) ((y33_0_8)) ((y33_0_9)) (CX.length : Int) (sc ((w6)) 0 ((u5_1))) qp CX (0, 0, (yc124_0_12), sc ((wc124_4)) 0 ((yc124_2_1))) ∧ nvl (ub8 ((w3))) (q4) 4 = 407708164) := by assumption
              have h124f : IMP ((tc124_0) ≠ 0) (TAe (ub8 ((w3))) ((u1_1)) ((a3)) (sc ((w6)) 0 ((u5_1))) (q4, CX) ((tc124_0), (yc124_0_12), [])) := by assumption
              refine Ew_of (pcₚ := 126) (fun _ => x_istore rfl) ?_
              have hc149 : ∀ (tc149_0 : Int), ∀ (ls : rO) (σ : rS) (F_c149 : hF) (A_c149 : hA) , rlook ls 0 = some (.ref (D_c124 0)) → rlook ls 5 = some (I (x13_5)) → HW V226_Row_Row σ D_c124 N_c124 F_c149 A_c149 → OUT (V226_Row_Row).length D N σE c s D_c124 N_c124 σ c_c124 s_c124 → SF [(0, 12)] F_c124 F_c149 → SA [] A_c124 A_c149 → ∀ yc149_0_12 : Int, F_c149 0 12 = yc149_0_12 → (inr (tc149_0)) → (0 ≤ (tc149_0) ∧ (tc149_0) ≤ 11) → (0 ≤ (yc124_2_1) ∧ (yc124_2_1) ≤ (mc124_4) ∧ (mc124_4) ≤ 65536) → ((yc124_2_1) ≤ (a3)) → (0 ≤ (y11_0_5) ∧ (y11_0_5) ≤ (n3)) → ((yc124_2_2) = 0) → ((y11_0_7) = (a3) ∧ (y11_0_5) = (u1_1)) → ((tc149_0) = 0 → (x13_4) + 4 ≤ (yc149_0_12) ∧ (yc149_0_12) ≤ (y11_0_5)) → (IMP ((tc149_0) = 0) (TAs (ub8 ((w3))) ((u1_1)) ((a3)) (sc ((w6)) 0 ((u5_1))) (q4, CX) ((yc149_0_12), sc ((wc124_4)) 0 ((yc124_2_1))))) → (IMP ((tc149_0) ≠ 0) (TAe (ub8 ((w3))) ((u1_1)) ((a3)) (sc ((w6)) 0 ((u5_1))) (q4, CX) ((tc149_0), (yc149_0_12), []))) → Ew 226 (d + 5) 149 ls [I (tc149_0)] σ c_c124 s_c124 Q := by
               as_aux_lemma =>
                intro tc149_0 ls σ F_c149 A_c149  lc149_0 lc149_5 H O hS_c149 hA_c149   yc149_0_12 eyc149_0_12  jc149_0 jc149_1 jc149_2 jc149_3 jc149_4 jc149_5 jc149_6 jc149_7 jc149_8 jc149_9
                have cF_c149 : SF oz_D5clsl_11 F F_c149 := SF_trans (cF_c124) hS_c149 (any_sub (by decide +kernel))
                have mF_c149 := SFm_of cF_c149 oz_D5cls_45
                have cA_c149 : SA oz_D5clsl_12 A A_c149 := SA_trans (cA_c124) hA_c149 (any_subA (by decide +kernel))
                have mA_c149 := SAm_of cA_c149 oz_D5cls_46
                have r42 : (-2147483648 : Int) ≤ yc149_0_12 ∧ yc149_0_12 ≤ 2147483647 := rngE (show (-2147483648 : Int) ≤ F_c149 0 12 ∧ F_c149 0 12 ≤ 2147483647 from H.krg 0 12 (ltn len_V226_Row_Row_oz_D5cls rfl)) (show F_c149 0 12 = yc149_0_12 from (eyc149_0_12))
                have h149y : IMP ((tc149_0) = 0) (TAs (ub8 ((w3))) ((u1_1)) ((a3)) (sc ((w6)) 0 ((u5_1))) (q4, CX) ((yc149_0_12), sc ((wc124_4)) 0 ((yc124_2_1)))) := by assumption
                have h149f : IMP ((tc149_0) ≠ 0) (TAe (ub8 ((w3))) ((u1_1)) ((a3)) (sc ((w6)) 0 ((u5_1))) (q4, CX) ((tc149_0), (yc149_0_12), [])) := by assumption
                refine Ew_of (pcₚ := 151) (fun _ => x_istore rfl) ?_
                refine Ew_of (pcₚ := 153) (fun _ => x_iload rfl rk_s) ?_
                refine w_ifeq (t := 159) rfl rfl (show inr (tc149_0) from jc149_0) (fun b43 => ?_) (fun b43 => ?_)
                · refine Ew_of (pcₚ := 160) (fun _ => x_aload_n rfl (rk_o (lc149_0) rfl rfl)) ?_
                  refine v_g H (o := 0) (v := I (yc149_0_12)) rfl rfl rfl rfl rfl (congrArg (fun z : Int => I z) ((eyc149_0_12) : F_c149 0 12 = yc149_0_12)) ?_
                  refine Ew_of (pcₚ := 165) (fun _ => x_istore rfl) ?_
                  have hnx : ITO (TAs (ub8 ((w3))) ((u1_1)) ((a3)) (sc ((w6)) 0 ((u5_1)))) (TAe (ub8 ((w3))) ((u1_1)) ((a3)) (sc ((w6)) 0 ((u5_1)))) (0, []) ((yc149_0_12), sc ((wc124_4)) 0 ((yc124_2_1))) := by first | exact ITO_s j13_x (h149y (by omega)) | (rw [← hCX]; exact ITO_s j13_x (TAs_s (n := nvl (ub8 ((w3))) (q4 + 4) 4) (by omega) hSP (by omega) rfl (by omega) (by omega)))
                  refine Ew_of (pcₚ := 168) (fun _ => x_iinc (len := 3) rfl (rk_o (rk_o (lc149_5) rfl rfl) rfl rfl)) ?_
                  refine Ew_of (pcₚ := 13) (fun _ => x_goto rfl rfl) ?_
                  exact ih13 _ (msE hm13 q_16 (q_17 b18)) _ _ _ _ _ _ _ _ (yc149_0_12) ((x13_5 + 1)) (rk_o (rk_o (rk_o (lc149_0) rfl rfl) rfl rfl) rfl rfl) (rk_o (rk_s) rfl rfl) (rk_s) H O (SD_trans (hD_13) hD_c124 (any_subA (by decide +kernel))) (SD_trans (hN_13) hN_c124 (any_subA (by decide +kernel))) (SF_trans (SF_trans (SF_trans (SF_trans (hS_13) (SF_gluc (ι := oz_D5clsl_5) oz_D5cls_35 hS27 eF27 (by decide +kernel)) (any_sub (lₚ := []) (by decide +kernel))) (SF_gluc (ι := oz_D5clsl_13) oz_D5cls_47 hS33 eF33 (by decide +kernel)) (any_sub (lₚ := [(0, 8), (0, 9), (0, 10), (0, 12)]) (by decide +kernel))) hS_c124 (any_sub (by decide +kernel))) hS_c149 (any_sub (by decide +kernel))) (SA_trans (SA_trans (SA_trans (SA_trans (hA_13) (SA_gluc (ι := oz_D5clsl_5) oz_D5cls_35 hA27 eA27 (by decide +kernel)) (any_subA (lₚ := []) (by decide +kernel))) (SA_gluc (ι := oz_D5clsl_13) oz_D5cls_47 hA33 eA33 (by decide +kernel)) (any_subA (lₚ := []) (by decide +kernel))) hA_c124 (any_subA (by decide +kernel))) hA_c149 (any_subA (by decide +kernel))) (((hS_c149 2 0 rfl)).trans (pmc124_4)) (mc124_4) (emc124_4) (yc124_2_1) (((hS_c149 2 1 rfl).trans (eyc124_2_1))) (yc124_2_2) (((hS_c149 2 2 rfl).trans (eyc124_2_2))) (wc124_4) ((funext (hA_c149 4 rfl)).trans (ewc124_4)) (show inr (yc149_0_12) from q_18 r42) (show inr ((x13_5 + 1)) from q_3388 b18 j13_2 jc149_4 r6) (show (0) ≤ ((x13_5 + 1)) from q_14 j13_2) (show ((x13_5 + 1)) ≤ (0) ∨ ((x13_5 + 1)) ≤ ((y11_0_5)) from q_13 b18) (show 0 ≤ (yc149_0_12) ∧ (yc149_0_12) ≤ (y11_0_5) from q_3387 b43 j13_4 jc149_7) (show ((x13_5 + 1)) ≤ (yc149_0_12) from q_3386 b43 j13_5 jc149_7) (show 0 ≤ (yc124_2_1) ∧ (yc124_2_1) ≤ (mc124_4) ∧ (mc124_4) ≤ 65536 from jc149_2) (show (yc124_2_1) ≤ (a3) from jc149_3) (show 0 ≤ (y11_0_5) ∧ (y11_0_5) ≤ (n3) from jc149_4) (show (yc124_2_2) = 0 from jc149_5) (show (y11_0_7) = (a3) ∧ (y11_0_5) = (u1_1) from jc149_6) (hnx) rfl
                · refine Ew_of (pcₚ := 158) (fun _ => x_iload rfl rk_s) ?_
                  have : IMP ((tc149_0) ≠ 0) (IT (TAs (ub8 ((w3))) ((u1_1)) ((a3)) (sc ((w6)) 0 ((u5_1)))) (TAe (ub8 ((w3))) ((u1_1)) ((a3)) (sc ((w6)) 0 ((u5_1)))) (0, []) ((tc149_0), (yc149_0_12), [])) := fun z => ITO_e j13_x (h149f z)
                  have : IMP ((tc149_0) = 0) (IT (TAs (ub8 ((w3))) ((u1_1)) ((a3)) (sc ((w6)) 0 ((u5_1)))) (TAe (ub8 ((w3))) ((u1_1)) ((a3)) (sc ((w6)) 0 ((u5_1)))) (0, []) (0, (yc149_0_12), sc ((wc124_4)) 0 ((yc124_2_1)))) := fun z => absurd z (by omega)
                  exact w_ireturn rfl (k (tc149_0) _ _ _ _ _ _ _ H O (cD_c124) (cN_c124) (cF_c149) (cA_c149) (((hS_c149 2 0 rfl)).trans (pmc124_4)) (mc124_4) (emc124_4) (yc149_0_12) ((eyc149_0_12)) (yc124_2_1) (((hS_c149 2 1 rfl).trans (eyc124_2_1))) (yc124_2_2) (((hS_c149 2 2 rfl).trans (eyc124_2_2))) (wc124_4) ((funext (hA_c149 4 rfl)).trans (ewc124_4)) (show inr (tc149_0) from jc149_0) (show 0 ≤ (tc149_0) ∧ (tc149_0) ≤ 11 from jc149_1) (show 0 ≤ (yc124_2_1) ∧ (yc124_2_1) ≤ (mc124_4) ∧ (mc124_4) ≤ 65536 from jc149_2) (show (yc124_2_2) = 0 from jc149_5) (show IMP ((tc149_0) ≠ 0) (IT (TAs (ub8 ((w3))) ((u1_1)) (a3) (sc ((w6)) 0 ((u5_1)))) (TAe (ub8 ((w3))) ((u1_1)) (a3) (sc ((w6)) 0 ((u5_1)))) (0, []) ((tc149_0), (yc149_0_12), [])) by assumption) (show IMP ((tc149_0) = 0) (IT (TAs (ub8 ((w3))) ((u1_1)) (a3) (sc ((w6)) 0 ((u5_1)))) (TAe (ub8 ((w3))) ((u1_1)) (a3) (sc ((w6)) 0 ((u5_1)))) (0, []) (0, (yc149_0_12), sc ((wc124_4)) 0 ((yc124_2_1)))) by assumption) (show (tc149_0) ≠ 0 ∨ (yc149_0_12) = (u1_1) from q_3250 b43))
              refine Ew_of (pcₚ := 128) (fun _ => x_iload rfl rk_s) ?_
              refine w_ifeq (t := 136) rfl rfl (show inr (tc124_0) from jc124_0) (fun b44 => ?_) (fun b44 => ?_)
              · refine Ew_of (pcₚ := 137) (fun _ => x_aload_n rfl (rk_o (lc124_0) rfl rfl)) ?_
                refine Ew_of (pcₚ := 138) (fun _ => x_aload_n rfl (rk_o (lc124_0) rfl rfl)) ?_
                refine v_g H (o := 0) (v := I (yc124_0_12)) rfl rfl rfl rfl rfl (congrArg (fun z : Int => I z) ((eyc124_0_12) : F_c124 0 12 = yc124_0_12)) ?_
                refine Ew_of (pcₚ := 143) (fun _ => x_iload rfl (rk_o (lc124_4) rfl rfl)) ?_
                refine Ew_of (pcₚ := 145) (fun _ => x_bipush (z := 6) rfl (by decide)) ?_
                refine w_iadd rfl ?_
                refine v_inv H (o := 0) rfl rfl rfl rfl rfl rfl (by rfl) (C230 (D := puc 537396736 D_c124) (N := puc 537396736 N_c124) (HW_subc H oz_D5cls_41 oz_D5cls_47) (pf_c124_0_4) (pf_c124_0_6) (pmc124_4) (n3) ((congrArg (fun q : Nat => (q : Int)) (mN_c124 3 rfl)).trans (en3)) (mc124_4) (emc124_4) (y11_0_5) ((((((hS_c124 0 5 rfl).trans ((show F33 0 5 = F27 0 5 from (eF33 0 5).trans (hS33 0 5 rfl)))).trans ((show F27 0 5 = F_13 0 5 from (eF27 0 5)))).trans (hS_13 0 5 rfl)).trans ((eF11 0 5).trans ey11_0_5))) (y33_0_8) (((hS_c124 0 8 rfl).trans ((eF33 0 8).trans ey33_0_8))) (y33_0_10) (((hS_c124 0 10 rfl).trans ((eF33 0 10).trans ey33_0_10))) (yc124_0_12) ((eyc124_0_12)) (yc124_2_1) ((eyc124_2_1)) (w3) ((funext (mA_c124 3 rfl)).trans (ew3)) (wc124_4) (ewc124_4) (show inr (yc124_0_12) from q_18 r39) (show inr ((x13_4 + 6)) from q_3392 b26 j13_4 jc124_4 r6) (show 0 ≤ (y11_0_5) ∧ (y11_0_5) ≤ (n3) ∧ (n3) ≤ 65536 from q_3385 h1 jc124_4) (show 0 ≤ (yc124_0_12) ∧ (yc124_0_12) ≤ (y11_0_5) from q_3391 b44 j13_4 jc124_7) (show 0 ≤ (yc124_2_1) ∧ (yc124_2_1) ≤ (mc124_4) ∧ (mc124_4) ≤ 65536 from jc124_2) (show 0 ≤ (y33_0_10) ∧ (y33_0_10) ≤ (yc124_2_1) from q_3390 b44 jc124_7) (show 0 ≤ ((x13_4 + 6)) from q_3389 j13_4) (show andI ((y33_0_8)) 8 = 0 ∨ ((x13_4 + 6)) + 8 ≤ (n3) by omega) (fun z45 σ45 F45ₚ A45ₚ Hₚ Oₚ hS45 hA45 y45_0_12 ey45_0_12 pz45_0 pz45_1 pz45_2 pz45_3 => ⟨rfl, ?_⟩))
                refine v_backc (c := c_c124) (s := s_c124) H oz_D5cls_41 oz_D5cls_47 Hₚ Oₚ (fun F45 A45 H Oₚ eF45 eA45 => ?_)
                have O := OUT_trans O Oₚ
                -- Tokens.unpackEnd
                have cF45 : SF oz_D5clsl_11 F F45 := SF_trans (cF_c124) (SF_gluc (ι := oz_D5clsl_13) oz_D5cls_47 hS45 eF45 (by decide +kernel)) (any_sub (lₚ := [(0, 12)]) (by decide +kernel))
                have mF45 := SFm_of cF45 oz_D5cls_45
                have cA45 : SA oz_D5clsl_12 A A45 := SA_trans (cA_c124) (SA_gluc (ι := oz_D5clsl_13) oz_D5cls_47 hA45 eA45 (by decide +kernel)) (any_subA (lₚ := []) (by decide +kernel))
                have mA45 := SAm_of cA45 oz_D5cls_46
                have r46 : (-2147483648 : Int) ≤ y45_0_12 ∧ y45_0_12 ≤ 2147483647 := rngE (show (-2147483648 : Int) ≤ F45 0 12 ∧ F45 0 12 ≤ 2147483647 from H.krg 0 12 (ltn len_V226_Row_Row_oz_D5cls rfl)) (show F45 0 12 = y45_0_12 from ((eF45 0 12).trans ey45_0_12))
                have : IMP ((z45) = 0) (TAs (ub8 ((w3))) ((u1_1)) ((a3)) (sc ((w6)) 0 ((u5_1))) (q4, CX) ((y45_0_12), sc ((wc124_4)) 0 ((yc124_2_1)))) := by first | exact fun z => absurd z (by omega) | exact fun z => by obtain ⟨qp, y1, y2, y3, y4⟩ := h124y (by omega); exact TAs_f (by omega) y4 (TFr_y y1 rfl y3 (by have h := pz45_3; rw [show ((x13_4) : Int) + 6 - 6 = q4 by omega] at h; (try rw [show (y11_0_5) = (u1_1) by omega] at h); rw [← y2]; exact h) z)
                have : IMP ((z45) ≠ 0) (TAe (ub8 ((w3))) ((u1_1)) ((a3)) (sc ((w6)) 0 ((u5_1))) (q4, CX) ((z45), (y45_0_12), [])) := by first | exact fun z => h124f z | exact fun z => by obtain ⟨qp, y1, y2, y3, y4⟩ := h124y (by omega); exact TAe_f (by omega) y4 z (TFr_e y1 rfl y3 (by have h := pz45_3; rw [show ((x13_4) : Int) + 6 - 6 = q4 by omega] at h; (try rw [show (y11_0_5) = (u1_1) by omega] at h); rw [← y2]; exact h) z)
                exact hc149 (z45) _ _ _ _  (rk_o (lc124_0) rfl rfl) (rk_o (lc124_5) rfl rfl) H O (SF_trans (SF_refl) (SF_gluc (ι := oz_D5clsl_13) oz_D5cls_47 hS45 eF45 (by decide +kernel)) (any_sub (lₚ := [(0, 12)]) (by decide +kernel))) (SA_trans (SA_refl) (SA_gluc (ι := oz_D5clsl_13) oz_D5cls_47 hA45 eA45 (by decide +kernel)) (any_subA (lₚ := []) (by decide +kernel)))   (y45_0_12) (((eF45 0 12).trans ey45_0_12))  (show inr (z45) from pz45_0) (show 0 ≤ (z45) ∧ (z45) ≤ 11 from pz45_1) (show 0 ≤ (yc124_2_1) ∧ (yc124_2_1) ≤ (mc124_4) ∧ (mc124_4) ≤ 65536 from jc124_2) (show (yc124_2_1) ≤ (a3) from jc124_3) (show 0 ≤ (y11_0_5) ∧ (y11_0_5) ≤ (n3) from jc124_4) (show (yc124_2_2) = 0 from jc124_5) (show (y11_0_7) = (a3) ∧ (y11_0_5) = (u1_1) from jc124_6) (show (z45) = 0 → (x13_4) + 4 ≤ (y45_0_12) ∧ (y45_0_12) ≤ (y11_0_5) by omega) (show IMP ((z45) = 0) (TAs (ub8 ((w3))) ((u1_1)) ((a3)) (sc ((w6)) 0 ((u5_1))) (q4, CX) ((y45_0_12), sc ((wc124_4)) 0 ((yc124_2_1)))) by assumption) (show IMP ((z45) ≠ 0) (TAe (ub8 ((w3))) ((u1_1)) ((a3)) (sc ((w6)) 0 ((u5_1))) (q4, CX) ((z45), (y45_0_12), [])) by assumption)
              · refine Ew_of (pcₚ := 133) (fun _ => x_iload rfl rk_s) ?_
                refine Ew_of (pcₚ := 149) (fun _ => x_goto rfl rfl) ?_
                have : IMP ((tc124_0) = 0) (TAs (ub8 ((w3))) ((u1_1)) ((a3)) (sc ((w6)) 0 ((u5_1))) (q4, CX) ((yc124_0_12), sc ((wc124_4)) 0 ((yc124_2_1)))) := by first | exact fun z => absurd z (by omega) | exact fun z => by obtain ⟨qp, y1, y2, y3, y4⟩ := h124y (by omega); exact TAs_f (by omega) y4 (TFr_y y1 rfl y3 (by have h := pz45_3; rw [show ((x13_4) : Int) + 6 - 6 = q4 by omega] at h; (try rw [show (y11_0_5) = (u1_1) by omega] at h); rw [← y2]; exact h) z)
                have : IMP ((tc124_0) ≠ 0) (TAe (ub8 ((w3))) ((u1_1)) ((a3)) (sc ((w6)) 0 ((u5_1))) (q4, CX) ((tc124_0), (yc124_0_12), [])) := by first | exact fun z => h124f z | exact fun z => by obtain ⟨qp, y1, y2, y3, y4⟩ := h124y (by omega); exact TAe_f (by omega) y4 z (TFr_e y1 rfl y3 (by have h := pz45_3; rw [show ((x13_4) : Int) + 6 - 6 = q4 by omega] at h; (try rw [show (y11_0_5) = (u1_1) by omega] at h); rw [← y2]; exact h) z)
                exact hc149 (tc124_0) _ _ _ _  (rk_o (lc124_0) rfl rfl) (rk_o (lc124_5) rfl rfl) H O (SF_refl) (SA_refl)   (yc124_0_12) ((eyc124_0_12))  (show inr (tc124_0) from jc124_0) (show 0 ≤ (tc124_0) ∧ (tc124_0) ≤ 11 from q_3393 jc124_1) (show 0 ≤ (yc124_2_1) ∧ (yc124_2_1) ≤ (mc124_4) ∧ (mc124_4) ≤ 65536 from jc124_2) (show (yc124_2_1) ≤ (a3) from jc124_3) (show 0 ≤ (y11_0_5) ∧ (y11_0_5) ≤ (n3) from jc124_4) (show (yc124_2_2) = 0 from jc124_5) (show (y11_0_7) = (a3) ∧ (y11_0_5) = (u1_1) from jc124_6) (show (tc124_0) = 0 → (x13_4) + 4 ≤ (yc124_0_12) ∧ (yc124_0_12) ≤ (y11_0_5) by omega) (show IMP ((tc124_0) = 0) (TAs (ub8 ((w3))) ((u1_1)) ((a3)) (sc ((w6)) 0 ((u5_1))) (q4, CX) ((yc124_0_12), sc ((wc124_4)) 0 ((yc124_2_1)))) by assumption) (h124f)
            refine Ew_of (pcₚ := 108) (fun _ => x_iload rfl rk_s) ?_
            refine w_ifeq (t := 116) rfl rfl (show inr (z33) from pz33_0) (fun b47 => ?_) (fun b47 => ?_)
            · have hmk : nvl (ub8 ((w3))) (q4) 4 = 407708164 := by by_cases z : nvl (ub8 ((w3))) (q4) 4 = 407708164; (exact z); (have := hhm z; omega)
              have hTH := hhd hmk
              rw [show (z33 : Int) = 0 by omega] at hTH
              obtain ⟨qp, hqp⟩ : ∃ q : Int, q = (y33_0_12) := ⟨_, rfl⟩
              refine Ew_of (pcₚ := 117) (fun _ => x_aload_n rfl (rk_o (l13_0) rfl rfl)) ?_
              refine Ew_of (pcₚ := 118) (fun _ => x_aload_n rfl (rk_o (l13_0) rfl rfl)) ?_
              refine v_g H (o := 0) (v := I (y33_0_12)) rfl rfl rfl rfl rfl (congrArg (fun z : Int => I z) (((eF33 0 12).trans ey33_0_12) : F33 0 12 = y33_0_12)) ?_
              refine v_inv H (o := 0) rfl rfl rfl rfl rfl rfl (by rfl) (C228 (D := puc 211450367313408 D_13) (N := puc 211450367313408 N_13) (HW_subc H oz_D5cls_42 oz_D5cls_48) (((((show F33 0 4 = F27 0 4 from (eF33 0 4).trans (hS33 0 4 rfl))).trans ((show F27 0 4 = F_13 0 4 from (eF27 0 4))))).trans (pf_13_0_4)) (((((show F33 0 6 = F27 0 6 from (eF33 0 6).trans (hS33 0 6 rfl))).trans ((show F27 0 6 = F_13 0 6 from (eF27 0 6))))).trans (pf_13_0_6)) (((((show F33 2 0 = F27 2 0 from (eF33 2 0).trans (hS33 2 0 rfl))).trans ((show F27 2 0 = F_13 2 0 from (eF27 2 0))))).trans (pm13_4)) ((mF33 0 1 rfl).trans ((pf5).trans (congrArg (fun q : Nat => (q : Int)) (mD_13 5 rfl).symm))) ((mF33 5 0 rfl).trans ((pf6).trans (congrArg (fun q : Nat => (q : Int)) (mD_13 6 rfl).symm))) (n3) ((congrArg (fun q : Nat => (q : Int)) (mN_13 3 rfl)).trans (en3)) (m13_4) (em13_4) (n6) ((congrArg (fun q : Nat => (q : Int)) (mN_13 6 rfl)).trans (en6)) (y11_0_5) ((((((show F33 0 5 = F27 0 5 from (eF33 0 5).trans (hS33 0 5 rfl))).trans ((show F27 0 5 = F_13 0 5 from (eF27 0 5)))).trans (hS_13 0 5 rfl)).trans ((eF11 0 5).trans ey11_0_5))) (y11_0_7) ((((((show F33 0 7 = F27 0 7 from (eF33 0 7).trans (hS33 0 7 rfl))).trans ((show F27 0 7 = F_13 0 7 from (eF27 0 7)))).trans (hS_13 0 7 rfl)).trans ((eF11 0 7).trans ey11_0_7))) (y33_0_8) (((eF33 0 8).trans ey33_0_8)) (y33_0_9) (((eF33 0 9).trans ey33_0_9)) (y33_0_10) (((eF33 0 10).trans ey33_0_10)) (y33_0_12) (((eF33 0 12).trans ey33_0_12)) (y13_2_1) (((((show F33 2 1 = F27 2 1 from (eF33 2 1).trans (hS33 2 1 rfl))).trans ((show F27 2 1 = F_13 2 1 from (eF27 2 1)))).trans (ey13_2_1))) (y13_2_2) (((((show F33 2 2 = F27 2 2 from (eF33 2 2).trans (hS33 2 2 rfl))).trans ((show F27 2 2 = F_13 2 2 from (eF27 2 2)))).trans (ey13_2_2))) (u5_1) (((mF33 5 1 rfl).trans (eu5_1))) (w3) ((funext (mA33 3 rfl)).trans (ew3)) (w13_4) (((show A33 4 = A27 4 from (eA33 4).trans (funext (hA33 3 rfl)))).trans (((show A27 4 = A_13 4 from (eA27 4))).trans (ew13_4))) (w6) ((funext (mA33 6 rfl)).trans (ew6)) (show inr (y33_0_12) from q_18 r37) (show 0 ≤ (y11_0_5) ∧ (y11_0_5) ≤ (n3) ∧ (n3) ≤ 65536 from q_3385 h1 j13_8) (show 0 ≤ (y33_0_12) ∧ (y33_0_12) ≤ (y11_0_5) from q_3397 b47 j13_4 pz33_2) (show 0 ≤ (y13_2_1) ∧ (y13_2_1) ≤ (m13_4) ∧ (m13_4) ≤ 65536 from j13_6) (show 0 ≤ (u5_1) ∧ (u5_1) ≤ (n6) ∧ (n6) ≤ 65536 from h3) (show 0 ≤ (y11_0_7) ∧ (y11_0_7) ≤ 65536 ∧ (y13_2_1) ≤ (y11_0_7) from q_3396 h4 j13_10 j13_7) (show 0 ≤ (y33_0_10) ∧ (y33_0_10) ≤ (y13_2_1) from q_3395 b47 j13_6 pz33_2) (show 65536 ≤ (y33_0_9) ∧ (y33_0_9) ≤ 4194304 from q_3394 b47 pz33_2) (show (y13_2_2) = 0 from j13_9) (fun z48 σ48 D48ₚ N48ₚ F48ₚ A48ₚ c48 s48 Hₚ Oₚ hD48 hN48 hS48 hA48 pm48_3 m48_3 em48_3 y48_0_12 ey48_0_12 y48_2_1 ey48_2_1 y48_2_2 ey48_2_2 w48_3 ew48_3 pz48_0 pz48_1 pz48_2 pz48_3 pz48_4 pz48_5 pz48_6 pz48_7 => ⟨rfl, ?_⟩))
              refine v_backMc (c := c_13) (s := s_13) H oz_D5cls_42 oz_D5cls_48 Hₚ Oₚ hD48 oz_D5cls_43 (fun D48 N48 F48 A48 H Oₚ eD48 eN48 eF48 eA48 => ?_)
              have O := OUT_trans O Oₚ
              -- Tokens.unpackBlocks
              have cF48 : SF oz_D5clsl_11 F F48 := SF_trans (cF33) (SF_gluc (ι := oz_D5clsl_14) oz_D5cls_48 hS48 eF48 (by decide +kernel)) (any_sub (lₚ := [(0, 11), (0, 12), (2, 0), (2, 1), (2, 2)]) (by decide +kernel))
              have mF48 := SFm_of cF48 oz_D5cls_45
              have cA48 : SA oz_D5clsl_12 A A48 := SA_trans (cA33) (SA_gluc (ι := oz_D5clsl_14) oz_D5cls_48 hA48 eA48 (by decide +kernel)) (any_subA (lₚ := [4]) (by decide +kernel))
              have mA48 := SAm_of cA48 oz_D5cls_46
              have cD48 : SD oz_D5clsl_12 D D48 := SD_trans (cD_13) (SD_gluc (ι := oz_D5clsl_14) oz_D5cls_48 hD48 eD48 (by decide +kernel)) (any_subA (lₚ := [4]) (by decide +kernel))
              have mD48 := SDm_of cD48 oz_D5cls_46
              have cN48 : SD oz_D5clsl_12 N N48 := SD_trans (cN_13) (SD_gluc (ι := oz_D5clsl_14) oz_D5cls_48 hN48 eN48 (by decide +kernel)) (any_subA (lₚ := [4]) (by decide +kernel))
              have mN48 := SDm_of cN48 oz_D5cls_46
              have pf48_0_4 : F48 0 4 = (D48 3 : Int) := ((show F48 0 4 = F33 0 4 from (eF48 0 4).trans (hS48 0 4 rfl))).trans ((((((show F33 0 4 = F27 0 4 from (eF33 0 4).trans (hS33 0 4 rfl))).trans ((show F27 0 4 = F_13 0 4 from (eF27 0 4))))).trans (pf_13_0_4)).trans (congrArg (fun q : Nat => (q : Int)) ((show D48 3 = D_13 3 from (eD48 3).trans (hD48 1 rfl))).symm))
              have pf48_0_6 : F48 0 6 = (D48 2 : Int) := ((show F48 0 6 = F33 0 6 from (eF48 0 6).trans (hS48 0 6 rfl))).trans ((((((show F33 0 6 = F27 0 6 from (eF33 0 6).trans (hS33 0 6 rfl))).trans ((show F27 0 6 = F_13 0 6 from (eF27 0 6))))).trans (pf_13_0_6)).trans (congrArg (fun q : Nat => (q : Int)) ((show D48 2 = D_13 2 from (eD48 2).trans (hD48 2 rfl))).symm))
              have pf48_2_0 : F48 2 0 = (D48 4 : Int) := (eF48 2 0).trans (pm48_3.trans (congrArg (fun q : Nat => (q : Int)) (eD48 4).symm))
              have r49 : (0 : Int) ≤ m48_3 ∧ m48_3 ≤ 1000000 := nleE (H.nle 4 (ltn len_V226_Row_Row_oz_D5cls rfl)) (show (N48 4 : Int) = m48_3 from (congrArg (fun q : Nat => (q : Int)) (eN48 4)).trans em48_3)
              have r50 : (-2147483648 : Int) ≤ y48_0_12 ∧ y48_0_12 ≤ 2147483647 := rngE (show (-2147483648 : Int) ≤ F48 0 12 ∧ F48 0 12 ≤ 2147483647 from H.krg 0 12 (ltn len_V226_Row_Row_oz_D5cls rfl)) (show F48 0 12 = y48_0_12 from ((eF48 0 12).trans ey48_0_12))
              have r51 : (-2147483648 : Int) ≤ y48_2_1 ∧ y48_2_1 ≤ 2147483647 := rngE (show (-2147483648 : Int) ≤ F48 2 1 ∧ F48 2 1 ≤ 2147483647 from H.krg 2 1 (ltn len_V226_Row_Row_oz_D5cls rfl)) (show F48 2 1 = y48_2_1 from ((eF48 2 1).trans ey48_2_1))
              have r52 : (0 : Int) ≤ y48_2_2 ∧ y48_2_2 ≤ 1 := rngE (show (0 : Int) ≤ F48 2 2 ∧ F48 2 2 ≤ 1 from H.krg 2 2 (ltn len_V226_Row_Row_oz_D5cls rfl)) (show F48 2 2 = y48_2_2 from ((eF48 2 2).trans ey48_2_2))
              have : IMP ((z48) = 0) (∃ qp, THd (ub8 ((w3))) ((u1_1)) (q4) 0 qp ((y33_0_8)) ((y33_0_9)) ∧ (y33_0_10) = (CX.length : Int) ∧ TRB (ub8 ((w3))) ((u1_1)) ((a3)) ((y33_0_8)) ((y33_0_9)) (CX.length : Int) (sc ((w6)) 0 ((u5_1))) qp CX (0, 0, (y48_0_12), sc ((w48_3)) 0 ((y48_2_1))) ∧ nvl (ub8 ((w3))) (q4) 4 = 407708164) := by first | exact fun z => absurd z (by omega) | exact fun z => ⟨qp, by rw [hqp]; exact hTH, by omega, by have h := pz48_6 z; (try rw [show (y11_0_5) = (u1_1) by omega] at h); (try rw [show (y11_0_7) = (a3) by omega] at h); (try rw [show (y33_0_10) = (CX.length : Int) by omega] at h); rw [← hCX, ← hqp] at h; exact h, hmk⟩
              have : IMP ((z48) ≠ 0) (TAe (ub8 ((w3))) ((u1_1)) ((a3)) (sc ((w6)) 0 ((u5_1))) (q4, CX) ((z48), (y48_0_12), [])) := fun z => by first | (exact TAe_f (by omega) hmk z (TFr_b (by rw [← hqp] at hTH; exact hTH) rfl (by have h := pz48_7 z; (try rw [show (y11_0_5) = (u1_1) by omega] at h); (try rw [show (y11_0_7) = (a3) by omega] at h); (try rw [show (y33_0_10) = (CX.length : Int) by omega] at h); rw [← hCX, ← hqp] at h; exact h) z)) | (by_cases w : nvl (ub8 ((w3))) (q4) 4 = 407708164; (exact TAe_f (by omega) w z (TFr_h (hhd w) z)); (obtain ⟨w1, w2⟩ := hhm w; exact TAe_4 (by omega) (by unfold SPm at hsp ⊢; omega) w (by omega) (by omega)))
              exact hc124 (z48) _ _ _ _ _ _ _ _  ((rk_o (l13_0) rfl rfl).trans (congrArg (fun q : Nat => some (Value.ref q)) (((show D48 0 = D_13 0 from (eD48 0).trans (hD48 0 rfl)))).symm)) (rk_o (l13_4) rfl rfl) (rk_o (l13_5) rfl rfl) H O (SD_trans (SD_refl) (SD_gluc (ι := oz_D5clsl_14) oz_D5cls_48 hD48 eD48 (by decide +kernel)) (any_subA (lₚ := [4]) (by decide +kernel))) (SD_trans (SD_refl) (SD_gluc (ι := oz_D5clsl_14) oz_D5cls_48 hN48 eN48 (by decide +kernel)) (any_subA (lₚ := [4]) (by decide +kernel))) (SF_trans (SF_refl) (SF_gluc (ι := oz_D5clsl_14) oz_D5cls_48 hS48 eF48 (by decide +kernel)) (any_sub (lₚ := [(0, 11), (0, 12), (2, 0), (2, 1), (2, 2)]) (by decide +kernel))) (SA_trans (SA_refl) (SA_gluc (ι := oz_D5clsl_14) oz_D5cls_48 hA48 eA48 (by decide +kernel)) (any_subA (lₚ := [4]) (by decide +kernel))) (pf48_2_0) (m48_3) ((congrArg (fun q : Nat => (q : Int)) (eN48 4)).trans em48_3) (y48_0_12) (((eF48 0 12).trans ey48_0_12)) (y48_2_1) (((eF48 2 1).trans ey48_2_1)) (y48_2_2) (((eF48 2 2).trans ey48_2_2)) (w48_3) ((eA48 4).trans ew48_3) (show inr (z48) from pz48_0) (show 0 ≤ (z48) ∧ (z48) ≤ 9 from pz48_1) (show 0 ≤ (y48_2_1) ∧ (y48_2_1) ≤ (m48_3) ∧ (m48_3) ≤ 65536 from pz48_2) (show (y48_2_1) ≤ (a3) from q_3398 j13_10 pz48_3) (show 0 ≤ (y11_0_5) ∧ (y11_0_5) ≤ (n3) from j13_8) (show (y48_2_2) = 0 from pz48_5) (show (y11_0_7) = (a3) ∧ (y11_0_5) = (u1_1) from j13_10) (show (z48) = 0 → (x13_4) + 4 ≤ (y48_0_12) ∧ (y48_0_12) ≤ (y11_0_5) ∧ 0 ≤ (y33_0_10) ∧ (y33_0_10) ≤ (y48_2_1) by omega) (show (z48) = 0 → andI ((y33_0_8)) 8 = 0 ∨ (x13_4) + 14 ≤ (y11_0_5) by omega) (show IMP ((z48) = 0) (∃ qp, THd (ub8 ((w3))) ((u1_1)) (q4) 0 qp ((y33_0_8)) ((y33_0_9)) ∧ (y33_0_10) = (CX.length : Int) ∧ TRB (ub8 ((w3))) ((u1_1)) ((a3)) ((y33_0_8)) ((y33_0_9)) (CX.length : Int) (sc ((w6)) 0 ((u5_1))) qp CX (0, 0, (y48_0_12), sc ((w48_3)) 0 ((y48_2_1))) ∧ nvl (ub8 ((w3))) (q4) 4 = 407708164) by assumption) (show IMP ((z48) ≠ 0) (TAe (ub8 ((w3))) ((u1_1)) ((a3)) (sc ((w6)) 0 ((u5_1))) (q4, CX) ((z48), (y48_0_12), [])) by assumption)
            · refine Ew_of (pcₚ := 113) (fun _ => x_iload rfl rk_s) ?_
              refine Ew_of (pcₚ := 124) (fun _ => x_goto rfl rfl) ?_
              have : IMP ((z33) = 0) (∃ qp, THd (ub8 ((w3))) ((u1_1)) (q4) 0 qp ((y33_0_8)) ((y33_0_9)) ∧ (y33_0_10) = (CX.length : Int) ∧ TRB (ub8 ((w3))) ((u1_1)) ((a3)) ((y33_0_8)) ((y33_0_9)) (CX.length : Int) (sc ((w6)) 0 ((u5_1))) qp CX (0, 0, (y33_0_12), sc ((w13_4)) 0 ((y13_2_1))) ∧ nvl (ub8 ((w3))) (q4) 4 = 407708164) := by first | exact fun z => absurd z (by omega) | exact fun z => ⟨qp, by rw [hqp]; exact hTH, by omega, by have h := pz48_6 z; (try rw [show (y11_0_5) = (u1_1) by omega] at h); (try rw [show (y11_0_7) = (a3) by omega] at h); (try rw [show (y33_0_10) = (CX.length : Int) by omega] at h); rw [← hCX, ← hqp] at h; exact h, hmk⟩
              have : IMP ((z33) ≠ 0) (TAe (ub8 ((w3))) ((u1_1)) ((a3)) (sc ((w6)) 0 ((u5_1))) (q4, CX) ((z33), (y33_0_12), [])) := fun z => by first | (exact TAe_f (by omega) hmk z (TFr_b (by rw [← hqp] at hTH; exact hTH) rfl (by have h := pz48_7 z; (try rw [show (y11_0_5) = (u1_1) by omega] at h); (try rw [show (y11_0_7) = (a3) by omega] at h); (try rw [show (y33_0_10) = (CX.length : Int) by omega] at h); rw [← hCX, ← hqp] at h; exact h) z)) | (by_cases w : nvl (ub8 ((w3))) (q4) 4 = 407708164; (exact TAe_f (by omega) w z (TFr_h (hhd w) z)); (obtain ⟨w1, w2⟩ := hhm w; exact TAe_4 (by omega) (by unfold SPm at hsp ⊢; omega) w (by omega) (by omega)))
              exact hc124 (z33) _ _ _ _ _ _ _ _  (rk_o (l13_0) rfl rfl) (rk_o (l13_4) rfl rfl) (rk_o (l13_5) rfl rfl) H O (SD_refl) (SD_refl) (SF_refl) (SA_refl) (((((show F33 2 0 = F27 2 0 from (eF33 2 0).trans (hS33 2 0 rfl))).trans ((show F27 2 0 = F_13 2 0 from (eF27 2 0))))).trans (pm13_4)) (m13_4) (em13_4) (y33_0_12) (((eF33 0 12).trans ey33_0_12)) (y13_2_1) (((((show F33 2 1 = F27 2 1 from (eF33 2 1).trans (hS33 2 1 rfl))).trans ((show F27 2 1 = F_13 2 1 from (eF27 2 1)))).trans (ey13_2_1))) (y13_2_2) (((((show F33 2 2 = F27 2 2 from (eF33 2 2).trans (hS33 2 2 rfl))).trans ((show F27 2 2 = F_13 2 2 from (eF27 2 2)))).trans (ey13_2_2))) (w13_4) (((show A33 4 = A27 4 from (eA33 4).trans (funext (hA33 3 rfl)))).trans (((show A27 4 = A_13 4 from (eA27 4))).trans (ew13_4))) (show inr (z33) from pz33_0) (show 0 ≤ (z33) ∧ (z33) ≤ 9 from q_3399 pz33_1) (show 0 ≤ (y13_2_1) ∧ (y13_2_1) ≤ (m13_4) ∧ (m13_4) ≤ 65536 from j13_6) (show (y13_2_1) ≤ (a3) from j13_7) (show 0 ≤ (y11_0_5) ∧ (y11_0_5) ≤ (n3) from j13_8) (show (y13_2_2) = 0 from j13_9) (show (y11_0_7) = (a3) ∧ (y11_0_5) = (u1_1) from j13_10) (show (z33) = 0 → (x13_4) + 4 ≤ (y33_0_12) ∧ (y33_0_12) ≤ (y11_0_5) ∧ 0 ≤ (y33_0_10) ∧ (y33_0_10) ≤ (y13_2_1) by omega) (show (z33) = 0 → andI ((y33_0_8)) 8 = 0 ∨ (x13_4) + 14 ≤ (y11_0_5) from pz33_3) (show IMP ((z33) = 0) (∃ qp, THd (ub8 ((w3))) ((u1_1)) (q4) 0 qp ((y33_0_8)) ((y33_0_9)) ∧ (y33_0_10) = (CX.length : Int) ∧ TRB (ub8 ((w3))) ((u1_1)) ((a3)) ((y33_0_8)) ((y33_0_9)) (CX.length : Int) (sc ((w6)) 0 ((u5_1))) qp CX (0, 0, (y33_0_12), sc ((w13_4)) 0 ((y13_2_1))) ∧ nvl (ub8 ((w3))) (q4) 4 = 407708164) by assumption) (show IMP ((z33) ≠ 0) (TAe (ub8 ((w3))) ((u1_1)) ((a3)) (sc ((w6)) 0 ((u5_1))) (q4, CX) ((z33), (y33_0_12), [])) by assumption)
          · refine Ew_of (pcₚ := 69) (fun _ => x_aload_n rfl l13_0) ?_
            refine v_g H (o := 0) (v := .ref (D_13 3)) rfl rfl rfl rfl rfl (vrf ((((show F27 0 4 = F_13 0 4 from (eF27 0 4)))).trans (pf_13_0_4))) ?_
            refine Ew_of (pcₚ := 74) (fun _ => x_iload rfl l13_4) ?_
            refine Ew_of (pcₚ := 75) (fun _ => x_aload_n rfl l13_0) ?_
            refine v_g H (o := 0) (v := I (y11_0_5)) rfl rfl rfl rfl rfl (congrArg (fun z : Int => I z) (((((show F27 0 5 = F_13 0 5 from (eF27 0 5))).trans (hS_13 0 5 rfl)).trans ((eF11 0 5).trans ey11_0_5)) : F27 0 5 = y11_0_5)) ?_
            refine w_stat25 rfl rfl (by rfl) (C44_Br (D := puc 3 D_13) (N := puc 3 N_13) (HW_subc H oz_D5cls_44 oz_D5cls_35) (n3) ((congrArg (fun q : Nat => (q : Int)) (mN_13 3 rfl)).trans (en3)) (w3) ((funext (mA27 3 rfl)).trans (ew3)) (show inr (x13_4) from j13_0) (show inr (y11_0_5) from q_512 j13_8 r12) (show 0 ≤ (x13_4) ∧ 0 ≤ (y11_0_5) ∧ (y11_0_5) ≤ (n3) ∧ (n3) ≤ 65536 ∧ (x13_4) ≤ 200000 from q_3383 b26 h1 j13_4 j13_8 r6) (fun z53 σ53 F53ₚ A53ₚ Hₚ Oₚ hS53 hA53 pz53_0 pz53_1 pz53_2 => ⟨rfl, ?_⟩))
            refine v_backc (c := c_13) (s := s_13) H oz_D5cls_44 oz_D5cls_35 Hₚ Oₚ (fun F53 A53 H Oₚ eF53 eA53 => ?_)
            have O := OUT_trans O Oₚ
            -- PackHouse.afterSpare
            have cF53 : SF oz_D5clsl_11 F F53 := SF_trans (cF27) (SF_gluc (ι := oz_D5clsl_5) oz_D5cls_35 hS53 eF53 (by decide +kernel)) (any_sub (lₚ := []) (by decide +kernel))
            have mF53 := SFm_of cF53 oz_D5cls_45
            have cA53 : SA oz_D5clsl_12 A A53 := SA_trans (cA27) (SA_gluc (ι := oz_D5clsl_5) oz_D5cls_35 hA53 eA53 (by decide +kernel)) (any_subA (lₚ := []) (by decide +kernel))
            have mA53 := SAm_of cA53 oz_D5cls_46
            have hnv4 := nvl_n (f := ub8 ((w3))) (a := q4 + 4)
            have has := pz53_2
            unfold ASQ at has
            rw [← nvl_ub, ← hq4] at has
            have hSP : SPm (nvl (ub8 ((w3))) (q4) 4) := by rcases hsp with ⟨_, _, z⟩ | ⟨z, _⟩; (exact z); (omega)
            refine Ew_of (pcₚ := 83) (fun _ => x_istore rfl) ?_
            refine Ew_of (pcₚ := 85) (fun _ => x_iload rfl rk_s) ?_
            refine w_ifge (t := 165) rfl rfl (show inr (z53) from pz53_0) (fun b54 => ?_) (fun b54 => ?_)
            · have hnx : ITO (TAs (ub8 ((w3))) ((u1_1)) ((a3)) (sc ((w6)) 0 ((u5_1)))) (TAe (ub8 ((w3))) ((u1_1)) ((a3)) (sc ((w6)) 0 ((u5_1)))) (0, []) ((z53), sc ((w13_4)) 0 ((y13_2_1))) := by first | exact ITO_s j13_x (h149y (by omega)) | (rw [← hCX]; exact ITO_s j13_x (TAs_s (n := nvl (ub8 ((w3))) (q4 + 4) 4) (by omega) hSP (by omega) rfl (by omega) (by omega)))
              refine Ew_of (pcₚ := 168) (fun _ => x_iinc (len := 3) rfl (rk_o (l13_5) rfl rfl)) ?_
              refine Ew_of (pcₚ := 13) (fun _ => x_goto rfl rfl) ?_
              exact ih13 _ (msE hm13 q_16 (q_17 b18)) _ _ _ _ _ _ _ _ (z53) ((x13_5 + 1)) (rk_o (rk_o (l13_0) rfl rfl) rfl rfl) (rk_o (rk_s) rfl rfl) (rk_s) H O (hD_13) (hN_13) (SF_trans (SF_trans (hS_13) (SF_gluc (ι := oz_D5clsl_5) oz_D5cls_35 hS27 eF27 (by decide +kernel)) (any_sub (lₚ := []) (by decide +kernel))) (SF_gluc (ι := oz_D5clsl_5) oz_D5cls_35 hS53 eF53 (by decide +kernel)) (any_sub (lₚ := []) (by decide +kernel))) (SA_trans (SA_trans (hA_13) (SA_gluc (ι := oz_D5clsl_5) oz_D5cls_35 hA27 eA27 (by decide +kernel)) (any_subA (lₚ := []) (by decide +kernel))) (SA_gluc (ι := oz_D5clsl_5) oz_D5cls_35 hA53 eA53 (by decide +kernel)) (any_subA (lₚ := []) (by decide +kernel))) (((((show F53 2 0 = F27 2 0 from (eF53 2 0))).trans ((show F27 2 0 = F_13 2 0 from (eF27 2 0))))).trans (pm13_4)) (m13_4) (em13_4) (y13_2_1) (((((show F53 2 1 = F27 2 1 from (eF53 2 1))).trans ((show F27 2 1 = F_13 2 1 from (eF27 2 1)))).trans (ey13_2_1))) (y13_2_2) (((((show F53 2 2 = F27 2 2 from (eF53 2 2))).trans ((show F27 2 2 = F_13 2 2 from (eF27 2 2)))).trans (ey13_2_2))) (w13_4) (((show A53 4 = A27 4 from (eA53 4))).trans (((show A27 4 = A_13 4 from (eA27 4))).trans (ew13_4))) (show inr (z53) from pz53_0) (show inr ((x13_5 + 1)) from q_3388 b18 j13_2 j13_8 r6) (show (0) ≤ ((x13_5 + 1)) from q_14 j13_2) (show ((x13_5 + 1)) ≤ (0) ∨ ((x13_5 + 1)) ≤ ((y11_0_5)) from q_13 b18) (show 0 ≤ (z53) ∧ (z53) ≤ (y11_0_5) from q_3401 b54 j13_8 pz53_1) (show ((x13_5 + 1)) ≤ (z53) from q_3400 b54 j13_1 j13_5 pz53_1) (show 0 ≤ (y13_2_1) ∧ (y13_2_1) ≤ (m13_4) ∧ (m13_4) ≤ 65536 from j13_6) (show (y13_2_1) ≤ (a3) from j13_7) (show 0 ≤ (y11_0_5) ∧ (y11_0_5) ≤ (n3) from j13_8) (show (y13_2_2) = 0 from j13_9) (show (y11_0_7) = (a3) ∧ (y11_0_5) = (u1_1) from j13_10) (hnx) rfl
            · refine Ew_of (pcₚ := 89) (fun _ => x_aload_n rfl (rk_o (l13_0) rfl rfl)) ?_
              refine Ew_of (pcₚ := 90) (fun _ => x_iconst rfl) ?_
              refine Ew_of (pcₚ := 91) (fun _ => x_aload_n rfl (rk_o (l13_0) rfl rfl)) ?_
              refine v_g H (o := 0) (v := I (y11_0_5)) rfl rfl rfl rfl rfl (congrArg (fun z : Int => I z) ((((((show F53 0 5 = F27 0 5 from (eF53 0 5))).trans ((show F27 0 5 = F_13 0 5 from (eF27 0 5)))).trans (hS_13 0 5 rfl)).trans ((eF11 0 5).trans ey11_0_5)) : F53 0 5 = y11_0_5)) ?_
              have r55 : (-2147483648 : Int) ≤ F_13 0 12 ∧ F_13 0 12 ≤ 2147483647 := rngE (show (-2147483648 : Int) ≤ F53 0 12 ∧ F53 0 12 ≤ 2147483647 from H.krg 0 12 (ltn len_V226_Row_Row_oz_D5cls rfl)) (show F53 0 12 = F_13 0 12 from (((show F53 0 12 = F27 0 12 from (eF53 0 12))).trans ((show F27 0 12 = F_13 0 12 from (eF27 0 12)))))
              refine v_inv H (o := 0) rfl rfl rfl rfl rfl rfl (by rfl) (C221 (D := puc 0 D_13) (N := puc 0 N_13) (HW_subc H oz_D5cls_38 oz_D5cls_10) (F_13 0 12) ((((show F53 0 12 = F27 0 12 from (eF53 0 12))).trans ((show F27 0 12 = F_13 0 12 from (eF27 0 12))))) (show inr (1) from q_135) (show inr (y11_0_5) from q_512 j13_8 r12) (fun z56 σ56 F56ₚ A56ₚ Hₚ Oₚ hS56 hA56 y56_0_12 ey56_0_12 pz56_0 pz56_1 pz56_2 => ⟨rfl, ?_⟩))
              refine v_backc (c := c_13) (s := s_13) H oz_D5cls_38 oz_D5cls_10 Hₚ Oₚ (fun F56 A56 H Oₚ eF56 eA56 => ?_)
              have O := OUT_trans O Oₚ
              -- Tokens.fail
              have cF56 : SF oz_D5clsl_11 F F56 := SF_trans (cF53) (SF_gluc (ι := oz_D5clsl_3) oz_D5cls_10 hS56 eF56 (by decide +kernel)) (any_sub (lₚ := [(0, 12)]) (by decide +kernel))
              have mF56 := SFm_of cF56 oz_D5cls_45
              have cA56 : SA oz_D5clsl_12 A A56 := SA_trans (cA53) (SA_gluc (ι := oz_D5clsl_3) oz_D5cls_10 hA56 eA56 (by decide +kernel)) (any_subA (lₚ := []) (by decide +kernel))
              have mA56 := SAm_of cA56 oz_D5cls_46
              have r57 : (-2147483648 : Int) ≤ y56_0_12 ∧ y56_0_12 ≤ 2147483647 := rngE (show (-2147483648 : Int) ≤ F56 0 12 ∧ F56 0 12 ≤ 2147483647 from H.krg 0 12 (ltn len_V226_Row_Row_oz_D5cls rfl)) (show F56 0 12 = y56_0_12 from ((eF56 0 12).trans ey56_0_12))
              have : IMP ((z56) ≠ 0) (IT (TAs (ub8 ((w3))) ((u1_1)) ((a3)) (sc ((w6)) 0 ((u5_1)))) (TAe (ub8 ((w3))) ((u1_1)) ((a3)) (sc ((w6)) 0 ((u5_1)))) (0, []) ((z56), (y56_0_12), [])) := fun z => ITO_e j13_x (TAe_s (by omega) hSP (by omega) (by omega) (by omega))
              have : IMP ((z56) = 0) (IT (TAs (ub8 ((w3))) ((u1_1)) ((a3)) (sc ((w6)) 0 ((u5_1)))) (TAe (ub8 ((w3))) ((u1_1)) ((a3)) (sc ((w6)) 0 ((u5_1)))) (0, []) (0, (y56_0_12), sc ((w13_4)) 0 ((y13_2_1)))) := fun z => absurd z (by omega)
              exact w_ireturn rfl (k (z56) _ _ _ _ _ _ _ H O (cD_13) (cN_13) (cF56) (cA56) ((((((show F56 2 0 = F53 2 0 from (eF56 2 0))).trans ((show F53 2 0 = F27 2 0 from (eF53 2 0)))).trans ((show F27 2 0 = F_13 2 0 from (eF27 2 0))))).trans (pm13_4)) (m13_4) (em13_4) (y56_0_12) (((eF56 0 12).trans ey56_0_12)) (y13_2_1) ((((((show F56 2 1 = F53 2 1 from (eF56 2 1))).trans ((show F53 2 1 = F27 2 1 from (eF53 2 1)))).trans ((show F27 2 1 = F_13 2 1 from (eF27 2 1)))).trans (ey13_2_1))) (y13_2_2) ((((((show F56 2 2 = F53 2 2 from (eF56 2 2))).trans ((show F53 2 2 = F27 2 2 from (eF53 2 2)))).trans ((show F27 2 2 = F_13 2 2 from (eF27 2 2)))).trans (ey13_2_2))) (w13_4) (((show A56 4 = A53 4 from (eA56 4))).trans (((show A53 4 = A27 4 from (eA53 4))).trans (((show A27 4 = A_13 4 from (eA27 4))).trans (ew13_4)))) (show inr (z56) from pz56_0) (show 0 ≤ (z56) ∧ (z56) ≤ 11 from q_3375 pz56_1) (show 0 ≤ (y13_2_1) ∧ (y13_2_1) ≤ (m13_4) ∧ (m13_4) ≤ 65536 from j13_6) (show (y13_2_2) = 0 from j13_9) (show IMP ((z56) ≠ 0) (IT (TAs (ub8 ((w3))) ((u1_1)) (a3) (sc ((w6)) 0 ((u5_1)))) (TAe (ub8 ((w3))) ((u1_1)) (a3) (sc ((w6)) 0 ((u5_1)))) (0, []) ((z56), (y56_0_12), [])) by assumption) (show IMP ((z56) = 0) (IT (TAs (ub8 ((w3))) ((u1_1)) (a3) (sc ((w6)) 0 ((u5_1)))) (TAe (ub8 ((w3))) ((u1_1)) (a3) (sc ((w6)) 0 ((u5_1)))) (0, []) (0, (y56_0_12), sc ((w13_4)) 0 ((y13_2_1)))) by assumption) (show (z56) ≠ 0 ∨ (y56_0_12) = (u1_1) from q_3108 pz56_1))
        · refine Ew_of (pcₚ := 43) (fun _ => x_aload_n rfl l13_0) ?_
          refine Ew_of (pcₚ := 44) (fun _ => x_iconst rfl) ?_
          refine Ew_of (pcₚ := 45) (fun _ => x_aload_n rfl l13_0) ?_
          refine v_g H (o := 0) (v := I (y11_0_5)) rfl rfl rfl rfl rfl (congrArg (fun z : Int => I z) (((hS_13 0 5 rfl).trans ((eF11 0 5).trans ey11_0_5)) : F_13 0 5 = y11_0_5)) ?_
          have r58 : (-2147483648 : Int) ≤ F_13 0 12 ∧ F_13 0 12 ≤ 2147483647 := H.krg 0 12 (ltn len_V226_Row_Row_oz_D5cls rfl)
          refine v_inv H (o := 0) rfl rfl rfl rfl rfl rfl (by rfl) (C221 (D := puc 0 D_13) (N := puc 0 N_13) (HW_subc H oz_D5cls_38 oz_D5cls_10) (F_13 0 12) (rfl) (show inr (1) from q_135) (show inr (y11_0_5) from q_512 j13_8 r12) (fun z59 σ59 F59ₚ A59ₚ Hₚ Oₚ hS59 hA59 y59_0_12 ey59_0_12 pz59_0 pz59_1 pz59_2 => ⟨rfl, ?_⟩))
          refine v_backc (c := c_13) (s := s_13) H oz_D5cls_38 oz_D5cls_10 Hₚ Oₚ (fun F59 A59 H Oₚ eF59 eA59 => ?_)
          have O := OUT_trans O Oₚ
          -- Tokens.fail
          have cF59 : SF oz_D5clsl_11 F F59 := SF_trans (cF_13) (SF_gluc (ι := oz_D5clsl_3) oz_D5cls_10 hS59 eF59 (by decide +kernel)) (any_sub (lₚ := [(0, 12)]) (by decide +kernel))
          have mF59 := SFm_of cF59 oz_D5cls_45
          have cA59 : SA oz_D5clsl_12 A A59 := SA_trans (cA_13) (SA_gluc (ι := oz_D5clsl_3) oz_D5cls_10 hA59 eA59 (by decide +kernel)) (any_subA (lₚ := []) (by decide +kernel))
          have mA59 := SAm_of cA59 oz_D5cls_46
          have r60 : (-2147483648 : Int) ≤ y59_0_12 ∧ y59_0_12 ≤ 2147483647 := rngE (show (-2147483648 : Int) ≤ F59 0 12 ∧ F59 0 12 ≤ 2147483647 from H.krg 0 12 (ltn len_V226_Row_Row_oz_D5cls rfl)) (show F59 0 12 = y59_0_12 from ((eF59 0 12).trans ey59_0_12))
          have : IMP ((z59) ≠ 0) (IT (TAs (ub8 ((w3))) ((u1_1)) ((a3)) (sc ((w6)) 0 ((u5_1)))) (TAe (ub8 ((w3))) ((u1_1)) ((a3)) (sc ((w6)) 0 ((u5_1)))) (0, []) ((z59), (y59_0_12), [])) := fun z => ITO_e j13_x (TAe_1 (by omega) (by omega) (by omega) (by omega))
          have : IMP ((z59) = 0) (IT (TAs (ub8 ((w3))) ((u1_1)) ((a3)) (sc ((w6)) 0 ((u5_1)))) (TAe (ub8 ((w3))) ((u1_1)) ((a3)) (sc ((w6)) 0 ((u5_1)))) (0, []) (0, (y59_0_12), sc ((w13_4)) 0 ((y13_2_1)))) := fun z => absurd z (by omega)
          exact w_ireturn rfl (k (z59) _ _ _ _ _ _ _ H O (cD_13) (cN_13) (cF59) (cA59) ((((show F59 2 0 = F_13 2 0 from (eF59 2 0)))).trans (pm13_4)) (m13_4) (em13_4) (y59_0_12) (((eF59 0 12).trans ey59_0_12)) (y13_2_1) ((((show F59 2 1 = F_13 2 1 from (eF59 2 1))).trans (ey13_2_1))) (y13_2_2) ((((show F59 2 2 = F_13 2 2 from (eF59 2 2))).trans (ey13_2_2))) (w13_4) (((show A59 4 = A_13 4 from (eA59 4))).trans (ew13_4)) (show inr (z59) from pz59_0) (show 0 ≤ (z59) ∧ (z59) ≤ 11 from q_3375 pz59_1) (show 0 ≤ (y13_2_1) ∧ (y13_2_1) ≤ (m13_4) ∧ (m13_4) ≤ 65536 from j13_6) (show (y13_2_2) = 0 from j13_9) (show IMP ((z59) ≠ 0) (IT (TAs (ub8 ((w3))) ((u1_1)) (a3) (sc ((w6)) 0 ((u5_1)))) (TAe (ub8 ((w3))) ((u1_1)) (a3) (sc ((w6)) 0 ((u5_1)))) (0, []) ((z59), (y59_0_12), [])) by assumption) (show IMP ((z59) = 0) (IT (TAs (ub8 ((w3))) ((u1_1)) (a3) (sc ((w6)) 0 ((u5_1)))) (TAe (ub8 ((w3))) ((u1_1)) (a3) (sc ((w6)) 0 ((u5_1)))) (0, []) (0, (y59_0_12), sc ((w13_4)) 0 ((y13_2_1)))) by assumption) (show (z59) ≠ 0 ∨ (y59_0_12) = (u1_1) from q_3108 pz59_1))

