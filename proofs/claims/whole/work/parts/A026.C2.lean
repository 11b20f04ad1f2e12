section
/-! C2.cls -/
abbrev V124 : vV := [(0, 5, [(4, 0), (4, 0), (4, 0), (4, 0), (0, 0), (0, 0), (0, 0), (4, 0), (4, 0), (0, 0), (0, 0), (0, 0), (0, 0), (0, 0), (0, 0), (0, 0), (0, 0), (0, 0), (0, 0)]), (0, 7, [(4, 0), (0, 0), (1, 0), (0, 0), (0, 0)]), (1, 0, []), (1, 1, []), (1, 1, [])]
theorem len_V124_oz_C2cls : (V124).length = 5 := by decide +kernel
theorem oz_C2cls_1 : vsub V124 V122 [0, 1, 2] = true := by decide +kernel
def oz_C2clsl_0 : List (Nat × Nat) := [(0, 6)]
theorem oz_C2cls_2 : (oz_C2clsl_0).all (fun p => !tbz 64 (Nat.add (Nat.mul 32 p.1) p.2)) = true := by decide +kernel
def oz_C2clsl_1 : List Nat := [4]
theorem oz_C2cls_3 : (oz_C2clsl_1).all (fun p => !tbz 16 p) = true := by decide +kernel
def oz_C2clsl_2 : List Nat := [0, 1, 2]
theorem oz_C2cls_4 : okc oz_C2clsl_2 524800 = true := by decide +kernel

theorem C124 {σE : rS} {D N : Nat → Nat} {F : hF} {A : hA} {d c s : Nat} {Q : wQ} (H : HW V124 σE D N F A) {a1 : Int} (pf1 : F 0 0 = (D 1 : Int)) (pf2 : F 1 0 = (D 2 : Int)) (pf3 : F 0 8 = (D 3 : Int)) (pf4 : F 0 7 = (D 4 : Int)) (n2 : Int) (en2 : (N 2 : Int) = n2) (n3 : Int) (en3 : (N 3 : Int) = n3) (n4 : Int) (en4 : (N 4 : Int) = n4) (u0_6 : Int) (eu0_6 : F 0 6 = u0_6) (u0_10 : Int) (eu0_10 : F 0 10 = u0_10) (u1_1 : Int) (eu1_1 : F 1 1 = u1_1) (w2 : Int → Int) (ew2 : A 2 = w2) (w3 : Int → Int) (ew3 : A 3 = w3) (w4 : Int → Int) (ew4 : A 4 = w4) (h0 : inr (a1)) (h1 : 0 ≤ (u1_1) ∧ (u1_1) ≤ (n2) ∧ (n2) ≤ 65536 ∧ (u1_1) ≤ 16384) (h2 : 1 ≤ (u0_10) ∧ (u0_10) ≤ 8) (h3 : 0 ≤ (a1) ∧ (a1) ≤ (u0_6)) (h4 : (u0_6) = 0 ∨ (u0_6) + (u0_10) ≤ (u1_1) + 1) (h5 : BKI ((w2)) ((w3)) ((u0_10)) ((u0_6))) (h6 : HDI ((w2)) ((w4)) ((u0_10)) ((u0_6))) (h7 : (n4) = 2048) (h8 : 0 ≤ (u0_6) ∧ (u0_6) ≤ (n3) ∧ (n3) ≤ 16384) (k : ∀ (σ : rS) (Fₚ : hF) (Aₚ : hA), HW V124 σ D N Fₚ Aₚ → OUT (V124).length D N σE c s D N σ c s → SF [(0, 6)] F Fₚ → SA [4] A Aₚ → ∀ y0_6 : Int, Fₚ 0 6 = y0_6 → ∀ v4 : Int → Int, Aₚ 4 = v4 → ((y0_6) = (a1)) → (BKI ((w2)) ((w3)) ((u0_10)) ((y0_6))) → (HDI ((w2)) ((v4)) ((u0_10)) ((y0_6))) → Q none σ c s) : Ew 124 (d + 1) 0 (rargs 0 [.ref (D 0), I a1]) [] σE c s Q := by
  have O := OUT_refl (n := (V124).length) (D := D) (N := N) (σ := σE) (c := c) (s := s)
  have HE := H
  have r1 : (-2147483648 : Int) ≤ u0_6 ∧ u0_6 ≤ 2147483647 := rngE (show (-2147483648 : Int) ≤ F 0 6 ∧ F 0 6 ≤ 2147483647 from H.krg 0 6 (ltn len_V124_oz_C2cls rfl)) (show F 0 6 = u0_6 from (eu0_6))
  have r2 : (-2147483648 : Int) ≤ u0_10 ∧ u0_10 ≤ 2147483647 := rngE (show (-2147483648 : Int) ≤ F 0 10 ∧ F 0 10 ≤ 2147483647 from H.krg 0 10 (ltn len_V124_oz_C2cls rfl)) (show F 0 10 = u0_10 from (eu0_10))
  have r3 : (-2147483648 : Int) ≤ u1_1 ∧ u1_1 ≤ 2147483647 := rngE (show (-2147483648 : Int) ≤ F 1 1 ∧ F 1 1 ≤ 2147483647 from H.krg 1 1 (ltn len_V124_oz_C2cls rfl)) (show F 1 1 = u1_1 from (eu1_1))
  have r4 : (0 : Int) ≤ n2 ∧ n2 ≤ 1000000 := nleE (H.nle 2 (ltn len_V124_oz_C2cls rfl)) (show (N 2 : Int) = n2 from en2)
  have r5 : (0 : Int) ≤ n3 ∧ n3 ≤ 1000000 := nleE (H.nle 3 (ltn len_V124_oz_C2cls rfl)) (show (N 3 : Int) = n3 from en3)
  have r6 : (0 : Int) ≤ n4 ∧ n4 ≤ 1000000 := nleE (H.nle 4 (ltn len_V124_oz_C2cls rfl)) (show (N 4 : Int) = n4 from en4)
  suffices hl0 : ∀ (m : Nat), ∀ (ls : rO) (σ : rS) (F_0 : hF) (A_0 : hA) , rlook ls 0 = some (.ref (D 0)) → rlook ls 1 = some (I (a1)) → HW V124 σ D N F_0 A_0 → OUT (V124).length D N σE c s D N σ c s → SF [(0, 6)] F F_0 → SA [4] A A_0 → ∀ y0_0_6 : Int, F_0 0 6 = y0_0_6 → ∀ w0_4 : Int → Int, A_0 4 = w0_4 → ((a1) ≤ (y0_0_6) ∧ (y0_0_6) ≤ (u0_6)) → (BKI ((w2)) ((w3)) ((u0_10)) ((y0_0_6))) → (HDI ((w2)) ((w0_4)) ((u0_10)) ((y0_0_6))) → ((y0_0_6) - (a1)).toNat = m → Ew 124 (d + 1) 0 ls [] σ c s Q from
    hl0 _ _ _ _ _  (rfl) (rfl) H O (SF_refl) (SA_refl)   (u0_6) ((eu0_6)) (w4) (ew4) (show (a1) ≤ (u0_6) ∧ (u0_6) ≤ (u0_6) from q_84 h3) (h5) (show HDI ((w2)) ((w4)) ((u0_10)) ((u0_6)) by assumption) rfl
  as_aux_lemma =>
  intro m
  induction m using Nat.strongRecOn with
  | _ m ih0 =>
    intro ls σ F_0 A_0  l0_0 l0_1 H O hS_0 hA_0   y0_0_6 ey0_0_6 w0_4 ew0_4 j0_0 j0_1 j0_2 hm0
    have cF_0 : SF oz_C2clsl_0 F F_0 := SF_trans (SF_refl) hS_0 (any_sub (by decide +kernel))
    have mF_0 := SFm_of cF_0 oz_C2cls_2
    have cA_0 : SA oz_C2clsl_1 A A_0 := SA_trans (SA_refl) hA_0 (any_subA (by decide +kernel))
    have mA_0 := SAm_of cA_0 oz_C2cls_3
    have r7 : (-2147483648 : Int) ≤ y0_0_6 ∧ y0_0_6 ≤ 2147483647 := rngE (show (-2147483648 : Int) ≤ F_0 0 6 ∧ F_0 0 6 ≤ 2147483647 from H.krg 0 6 (ltn len_V124_oz_C2cls rfl)) (show F_0 0 6 = y0_0_6 from (ey0_0_6))
    have j0_b : BKI ((w2)) ((w3)) ((u0_10)) ((y0_0_6)) := j0_1
    have j0_h : HDI ((w2)) ((w0_4)) ((u0_10)) ((y0_0_6)) := j0_2
    refine Ew_of (pcₚ := 1) (fun _ => x_aload_n rfl l0_0) ?_
    refine v_g H (o := 0) (v := I (y0_0_6)) rfl rfl rfl rfl rfl (congrArg (fun z : Int => I z) ((ey0_0_6) : F_0 0 6 = y0_0_6)) ?_
    refine Ew_of (pcₚ := 5) (fun _ => x_iload_n rfl l0_1) ?_
    refine w_icmple (t := 47) rfl rfl (show inr (y0_0_6) from q_18 r7) (show inr (a1) from h0) (fun b8 => ?_) (fun b8 => ?_)
    · exact w_ret rfl (k _ _ _ H O (cF_0) (cA_0) (y0_0_6) ((ey0_0_6)) (w0_4) (ew0_4) (show (y0_0_6) = a1 from q_85 b8 j0_0) (j0_b) (j0_h))
    · refine Ew_of (pcₚ := 9) (fun _ => x_aload_n rfl l0_0) ?_
      refine v_g H (o := 0) (v := .ref (D 4)) rfl rfl rfl rfl rfl (vrf ((mF_0 0 7 rfl).trans (pf4))) ?_
      refine Ew_of (pcₚ := 13) (fun _ => x_aload_n rfl l0_0) ?_
      refine Ew_of (pcₚ := 14) (fun _ => x_aload_n rfl l0_0) ?_
      refine v_g H (o := 0) (v := I (y0_0_6)) rfl rfl rfl rfl rfl (congrArg (fun z : Int => I z) ((ey0_0_6) : F_0 0 6 = y0_0_6)) ?_
      refine Ew_of (pcₚ := 18) (fun _ => x_iconst rfl) ?_
      refine w_isub rfl ?_
      refine v_inv H (o := 0) rfl rfl rfl rfl rfl rfl (by rfl) (C122 (D := puc 524800 D) (N := puc 524800 N) (HW_subc H oz_C2cls_1 oz_C2cls_4) ((mF_0 0 0 rfl).trans (pf1)) ((mF_0 1 0 rfl).trans (pf2)) (n2) (en2) (u0_10) (((mF_0 0 10 rfl).trans (eu0_10))) (u1_1) (((mF_0 1 1 rfl).trans (eu1_1))) (w2) ((funext (mA_0 2 rfl)).trans (ew2)) (show inr ((y0_0_6 - 1)) from q_87 b8 h3 r7) (show 0 ≤ (u1_1) ∧ (u1_1) ≤ (n2) ∧ (n2) ≤ 65536 ∧ (u1_1) ≤ 16384 from h1) (show 1 ≤ (u0_10) ∧ (u0_10) ≤ 8 from h2) (show 0 ≤ ((y0_0_6 - 1)) ∧ ((y0_0_6 - 1)) + (u0_10) ≤ (u1_1) from q_86 b8 h1 h2 h3 h4 j0_0) (fun z9 σ9 F9ₚ A9ₚ Hₚ Oₚ hS9 hA9 pz9_0 pz9_1 pz9_2 => ⟨rfl, ?_⟩))
      refine v_backc (c := c) (s := s) H oz_C2cls_1 oz_C2cls_4 Hₚ Oₚ (fun F9 A9 H Oₚ eF9 eA9 => ?_)
      have O := OUT_trans O Oₚ
      -- Finder.hashAt
      have cF9 : SF oz_C2clsl_0 F F9 := SF_trans (cF_0) (SF_gluc (ι := oz_C2clsl_2) oz_C2cls_4 hS9 eF9 (by decide +kernel)) (any_sub (lₚ := []) (by decide +kernel))
      have mF9 := SFm_of cF9 oz_C2cls_2
      have cA9 : SA oz_C2clsl_1 A A9 := SA_trans (cA_0) (SA_gluc (ι := oz_C2clsl_2) oz_C2cls_4 hA9 eA9 (by decide +kernel)) (any_subA (lₚ := []) (by decide +kernel))
      have mA9 := SAm_of cA9 oz_C2cls_3
      refine Ew_of (pcₚ := 23) (fun _ => x_aload_n rfl l0_0) ?_
      refine v_g H (o := 0) (v := .ref (D 3)) rfl rfl rfl rfl rfl (vrf ((mF9 0 8 rfl).trans (pf3))) ?_
      refine Ew_of (pcₚ := 27) (fun _ => x_aload_n rfl l0_0) ?_
      refine v_g H (o := 0) (v := I (y0_0_6)) rfl rfl rfl rfl rfl (congrArg (fun z : Int => I z) ((((show F9 0 6 = F_0 0 6 from (eF9 0 6).trans (hS9 0 6 rfl))).trans (ey0_0_6)) : F9 0 6 = y0_0_6)) ?_
      refine Ew_of (pcₚ := 31) (fun _ => x_iconst rfl) ?_
      refine w_isub rfl ?_
      refine v_lI H (o := 3) rfl rfl rfl rfl (n := n3) (en3) (show 0 ≤ (y0_0_6 - 1) ∧ (y0_0_6 - 1) < n3 from q_88 b8 h3 h8 j0_0) (fun v10 ev10 qv10 => ?_)
      have ev10 : (w3) ((y0_0_6 - 1)) = v10 := (congrFun ((funext (mA9 3 rfl)).trans (ew3)) ((y0_0_6 - 1))).symm.trans ev10
      have hbv := ev10
      have hwb := j0_b ((y0_0_6) - 1) (by omega) (by omega)
      have hhn : HDI ((w2)) (upd1 ((w0_4)) ((z9)) ((v10))) ((u0_10)) ((y0_0_6) - 1) := HDI_un j0_h j0_b rfl (by omega) pz9_2 hbv.symm
      have hbn : BKI ((w2)) ((w3)) ((u0_10)) ((y0_0_6) - 1) := BKI_le j0_b (by omega)
      refine v_sI H (o := 4) (z := v10) rfl rfl rfl rfl (n := n4) (en4) (show 0 ≤ z9 ∧ z9 < n4 from q_72 h7 pz9_1) (show inr (v10) from qv10) (fun σ H Oₚ => ?_)
      have O := OUT_trans O Oₚ
      have cAu11 : SA oz_C2clsl_1 A (updA A9 4 (z9) (v10)) := SA_upd (cA9) rfl
      have mAu11 := SAm_of cAu11 oz_C2cls_3
      refine Ew_of (pcₚ := 35) (fun _ => x_aload_n rfl l0_0) ?_
      refine Ew_of (pcₚ := 36) (fun _ => x_dup rfl rfl) ?_
      refine v_g H (o := 0) (v := I (y0_0_6)) rfl rfl rfl rfl rfl (congrArg (fun z : Int => I z) ((((show F9 0 6 = F_0 0 6 from (eF9 0 6).trans (hS9 0 6 rfl))).trans (ey0_0_6)) : F9 0 6 = y0_0_6)) ?_
      refine Ew_of (pcₚ := 40) (fun _ => x_iconst rfl) ?_
      refine w_isub rfl ?_
      refine v_p H (o := 0) (z := (y0_0_6 - 1)) (v := I ((y0_0_6 - 1))) rfl rfl rfl rfl rfl rfl rfl rfl (show (-2147483648 : Int) ≤ (y0_0_6 - 1) ∧ (y0_0_6 - 1) ≤ 2147483647 from q_89 b8 h3 r7) (fun σ H Oₚ => ?_)
      have O := OUT_trans O Oₚ
      have cFu12 : SF oz_C2clsl_0 F (updF F9 0 6 ((y0_0_6 - 1))) := SF_upd (cF9) rfl
      have mFu12 := SFm_of cFu12 oz_C2cls_2
      refine Ew_of (pcₚ := 0) (fun _ => x_goto rfl rfl) ?_
      exact ih0 _ (msE hm0 q_91 (q_17 b8)) _ _ _ _  (l0_0) (l0_1) H O (SF_upd (SF_trans (hS_0) (SF_gluc (ι := oz_C2clsl_2) oz_C2cls_4 hS9 eF9 (by decide +kernel)) (any_sub (lₚ := []) (by decide +kernel))) rfl) (SA_upd (SA_trans (hA_0) (SA_gluc (ι := oz_C2clsl_2) oz_C2cls_4 hA9 eA9 (by decide +kernel)) (any_subA (lₚ := []) (by decide +kernel))) rfl)   ((y0_0_6 - 1)) (rfl) (upd1 (w0_4) (z9) (v10)) (congrArg (fun q => upd1 q (z9) (v10)) (((show A9 4 = A_0 4 from (eA9 4))).trans (ew0_4))) (show (a1) ≤ ((y0_0_6 - 1)) ∧ ((y0_0_6 - 1)) ≤ (u0_6) from q_90 b8 j0_0) (hbn) (hhn) rfl
abbrev V128 : vV := [(0, 5, [(4, 0), (4, 0), (4, 0), (4, 0), (0, 0), (0, 0), (0, 0), (4, 0), (4, 0), (0, 0), (0, 0), (0, 0), (0, 0), (0, 0), (0, 0), (0, 0), (0, 0), (0, 0), (0, 0)]), (0, 7, [(4, 0), (0, 0), (1, 0), (0, 0), (0, 0)]), (1, 0, [])]
theorem len_V128_oz_C2cls : (V128).length = 3 := by decide +kernel
def oz_C2clsl_3 : List (Nat × Nat) := []
theorem oz_C2cls_6 : (oz_C2clsl_3).all (fun p => !tbz 0 (Nat.add (Nat.mul 32 p.1) p.2)) = true := by decide +kernel
def oz_C2clsl_4 : List Nat := []
theorem oz_C2cls_7 : (oz_C2clsl_4).all (fun p => !tbz 0 p) = true := by decide +kernel

theorem C128 {σE : rS} {D N : Nat → Nat} {F : hF} {A : hA} {d c s : Nat} {Q : wQ} (H : HW V128 σE D N F A) {a1 a2 : Int} (pf1 : F 0 0 = (D 1 : Int)) (pf2 : F 1 0 = (D 2 : Int)) (n2 : Int) (en2 : (N 2 : Int) = n2) (u0_12 : Int) (eu0_12 : F 0 12 = u0_12) (u1_1 : Int) (eu1_1 : F 1 1 = u1_1) (w2 : Int → Int) (ew2 : A 2 = w2) (h0 : inr (a1)) (h1 : inr (a2)) (h2 : 0 ≤ (u1_1) ∧ (u1_1) ≤ (n2) ∧ (n2) ≤ 65536 ∧ (u1_1) ≤ 16384) (h3 : (u0_12) ≤ (u1_1)) (h4 : 0 ≤ (a1) ∧ (a1) ≤ (a2) ∧ (a2) ≤ 16384) (k : ∀ (z : Int) (σ : rS) (Fₚ : hF) (Aₚ : hA), HW V128 σ D N Fₚ Aₚ → OUT (V128).length D N σE c s D N σ c s → SF [] F Fₚ → SA [] A Aₚ → (inr (z)) → (0 ≤ (z)) → ((z) = 0 ∨ (a2) + (z) ≤ (u0_12)) → ((z) = cpl ((w2)) ((a1)) ((a2)) ((u0_12))) → Q (some (I z)) σ c s) : Ew 128 (d + 0) 0 (rargs 0 [.ref (D 0), I a1, I a2]) [] σE c s Q := by
  have O := OUT_refl (n := (V128).length) (D := D) (N := N) (σ := σE) (c := c) (s := s)
  have HE := H
  have r1 : (-2147483648 : Int) ≤ u0_12 ∧ u0_12 ≤ 2147483647 := rngE (show (-2147483648 : Int) ≤ F 0 12 ∧ F 0 12 ≤ 2147483647 from H.krg 0 12 (ltn len_V128_oz_C2cls rfl)) (show F 0 12 = u0_12 from (eu0_12))
  have r2 : (-2147483648 : Int) ≤ u1_1 ∧ u1_1 ≤ 2147483647 := rngE (show (-2147483648 : Int) ≤ F 1 1 ∧ F 1 1 ≤ 2147483647 from H.krg 1 1 (ltn len_V128_oz_C2cls rfl)) (show F 1 1 = u1_1 from (eu1_1))
  have r3 : (0 : Int) ≤ n2 ∧ n2 ≤ 1000000 := nleE (H.nle 2 (ltn len_V128_oz_C2cls rfl)) (show (N 2 : Int) = n2 from en2)
  refine Ew_of (pcₚ := 1) (fun _ => x_iconst rfl) ?_
  refine Ew_of (pcₚ := 2) (fun _ => x_istore_n rfl) ?_
  have : EQB ((w2)) ((a1)) ((a2)) (0) := EQB_0
  suffices hl2 : ∀ (m : Nat), ∀ (ls : rO) (σ : rS) (F_2 : hF) (A_2 : hA) (x2_3 : Int), rlook ls 0 = some (.ref (D 0)) → rlook ls 1 = some (I (a1)) → rlook ls 2 = some (I (a2)) → rlook ls 3 = some (I (x2_3)) → HW V128 σ D N F_2 A_2 → OUT (V128).length D N σE c s D N σ c s → SF [] F F_2 → SA [] A A_2 → (inr (x2_3)) → (0 ≤ (x2_3)) → ((x2_3) = 0 ∨ (a2) + (x2_3) ≤ (u0_12)) → ((x2_3) ≤ 16384) → (EQB ((w2)) ((a1)) ((a2)) ((x2_3))) → ((u0_12) - (a2) - (x2_3)).toNat = m → Ew 128 (d + 0) 2 ls [] σ c s Q from
    hl2 _ _ _ _ _ (0) (rk_o (rfl) rfl rfl) (rk_o (rfl) rfl rfl) (rk_o (rfl) rfl rfl) (rk_s) H O (SF_refl) (SA_refl)     (show inr (0) from q_2) (show 0 ≤ (0) from q_1) (show (0) = 0 ∨ (a2) + (0) ≤ (u0_12) from q_93) (show (0) ≤ 16384 from q_92) (show EQB ((w2)) ((a1)) ((a2)) ((0)) by assumption) rfl
  as_aux_lemma =>
  intro m
  induction m using Nat.strongRecOn with
  | _ m ih2 =>
    intro ls σ F_2 A_2 x2_3 l2_0 l2_1 l2_2 l2_3 H O hS_2 hA_2     j2_0 j2_1 j2_2 j2_3 j2_4 hm2
    have cF_2 : SF oz_C2clsl_3 F F_2 := SF_trans (SF_refl) hS_2 (any_sub (by decide +kernel))
    have mF_2 := SFm_of cF_2 oz_C2cls_6
    have cA_2 : SA oz_C2clsl_4 A A_2 := SA_trans (SA_refl) hA_2 (any_subA (by decide +kernel))
    have mA_2 := SAm_of cA_2 oz_C2cls_7
    have j2_q : EQB ((w2)) ((a1)) ((a2)) ((x2_3)) := j2_4
    refine Ew_of (pcₚ := 3) (fun _ => x_iload_n rfl l2_2) ?_
    refine Ew_of (pcₚ := 4) (fun _ => x_iload_n rfl l2_3) ?_
    refine w_iadd rfl ?_
    refine Ew_of (pcₚ := 6) (fun _ => x_aload_n rfl l2_0) ?_
    refine v_g H (o := 0) (v := I (u0_12)) rfl rfl rfl rfl rfl (congrArg (fun z : Int => I z) (((mF_2 0 12 rfl).trans (eu0_12)) : F_2 0 12 = u0_12)) ?_
    refine w_icmpge (t := 43) rfl rfl (show inr ((a2 + x2_3)) from q_94 h4 j2_1 j2_3) (show inr (u0_12) from q_18 r1) (fun b4 => ?_) (fun b4 => ?_)
    · have : (x2_3) = cpl ((w2)) ((a1)) ((a2)) ((u0_12)) := (cpl_is (by omega) (by omega) j2_q (by first | exact .inl (by omega) | exact .inr (by rw [hb1, hb2]; omega))).symm
      refine Ew_of (pcₚ := 44) (fun _ => x_iload_n rfl l2_3) ?_
      exact w_ireturn rfl (k (x2_3) _ _ _ H O (cF_2) (cA_2) (show inr (x2_3) from j2_0) (show 0 ≤ (x2_3) from j2_1) (show (x2_3) = 0 ∨ a2 + (x2_3) ≤ (u0_12) from j2_2) (show (x2_3) = cpl ((w2)) (a1) (a2) ((u0_12)) by assumption))
    · refine Ew_of (pcₚ := 13) (fun _ => x_aload_n rfl l2_0) ?_
      refine v_g H (o := 0) (v := .ref (D 1)) rfl rfl rfl rfl rfl (vrf ((mF_2 0 0 rfl).trans (pf1))) ?_
      refine v_g H (o := 1) (v := .ref (D 2)) rfl rfl rfl rfl rfl (vrf ((mF_2 1 0 rfl).trans (pf2))) ?_
      refine Ew_of (pcₚ := 20) (fun _ => x_iload_n rfl l2_1) ?_
      refine Ew_of (pcₚ := 21) (fun _ => x_iload_n rfl l2_3) ?_
      refine w_iadd rfl ?_
      refine v_lB H (o := 2) rfl rfl rfl rfl (n := n2) (en2) (show 0 ≤ (a1 + x2_3) ∧ (a1 + x2_3) < n2 from q_95 b4 h2 h3 h4 j2_1) (fun v5 ev5 qv5 => ?_)
      have ev5 : (w2) ((a1 + x2_3)) = v5 := (congrFun ((funext (mA_2 2 rfl)).trans (ew2)) ((a1 + x2_3))).symm.trans ev5
      refine Ew_of (pcₚ := 24) (fun _ => x_aload_n rfl l2_0) ?_
      refine v_g H (o := 0) (v := .ref (D 1)) rfl rfl rfl rfl rfl (vrf ((mF_2 0 0 rfl).trans (pf1))) ?_
      refine v_g H (o := 1) (v := .ref (D 2)) rfl rfl rfl rfl rfl (vrf ((mF_2 1 0 rfl).trans (pf2))) ?_
      refine Ew_of (pcₚ := 31) (fun _ => x_iload_n rfl l2_2) ?_
      refine Ew_of (pcₚ := 32) (fun _ => x_iload_n rfl l2_3) ?_
      refine w_iadd rfl ?_
      refine v_lB H (o := 2) rfl rfl rfl rfl (n := n2) (en2) (show 0 ≤ (a2 + x2_3) ∧ (a2 + x2_3) < n2 from q_96 b4 h2 h3 h4 j2_1) (fun v6 ev6 qv6 => ?_)
      have ev6 : (w2) ((a2 + x2_3)) = v6 := (congrFun ((funext (mA_2 2 rfl)).trans (ew2)) ((a2 + x2_3))).symm.trans ev6
      have hb1 := ev5
      have hb2 := ev6
      refine w_icmpne (t := 43) rfl rfl (show inr (v5) from q_97 qv5) (show inr (v6) from q_97 qv6) (fun b7 => ?_) (fun b7 => ?_)
      · have : (x2_3) = cpl ((w2)) ((a1)) ((a2)) ((u0_12)) := (cpl_is (by omega) (by omega) j2_q (by first | exact .inl (by omega) | exact .inr (by rw [hb1, hb2]; omega))).symm
        refine Ew_of (pcₚ := 44) (fun _ => x_iload_n rfl l2_3) ?_
        exact w_ireturn rfl (k (x2_3) _ _ _ H O (cF_2) (cA_2) (show inr (x2_3) from j2_0) (show 0 ≤ (x2_3) from j2_1) (show (x2_3) = 0 ∨ a2 + (x2_3) ≤ (u0_12) from j2_2) (show (x2_3) = cpl ((w2)) (a1) (a2) ((u0_12)) by assumption))
      · have : EQB ((w2)) ((a1)) ((a2)) ((x2_3) + 1) := EQB_s j2_q (by rw [hb1, hb2]; omega) rfl
        refine Ew_of (pcₚ := 40) (fun _ => x_iinc (len := 3) rfl (l2_3)) ?_
        refine Ew_of (pcₚ := 2) (fun _ => x_goto rfl rfl) ?_
        exact ih2 _ (msE hm2 q_101 (q_102 b4)) _ _ _ _ ((x2_3 + 1)) (rk_o (l2_0) rfl rfl) (rk_o (l2_1) rfl rfl) (rk_o (l2_2) rfl rfl) (rk_s) H O (hS_2) (hA_2)     (show inr ((x2_3 + 1)) from q_100 j2_1 j2_3) (show 0 ≤ ((x2_3 + 1)) from q_14 j2_1) (show ((x2_3 + 1)) = 0 ∨ (a2) + ((x2_3 + 1)) ≤ (u0_12) from q_99 b4) (show ((x2_3 + 1)) ≤ 16384 from q_98 b4 h2 h3 h4) (show EQB ((w2)) ((a1)) ((a2)) (((x2_3 + 1))) by assumption) rfl
abbrev V129 : vV := [(0, 5, [(4, 0), (4, 0), (4, 0), (4, 0), (0, 0), (0, 0), (0, 0), (4, 0), (4, 0), (0, 0), (0, 0), (0, 0), (0, 0), (0, 0), (0, 0), (0, 0), (0, 0), (0, 0), (0, 0)]), (0, 7, [(4, 0), (0, 0), (1, 0), (0, 0), (0, 0)]), (1, 0, []), (1, 1, [])]
theorem len_V129_oz_C2cls : (V129).length = 4 := by decide +kernel
theorem oz_C2cls_9 : vsub V129 V128 [0, 1, 2] = true := by decide +kernel
def oz_C2clsl_5 : List (Nat × Nat) := [(0, 14), (0, 15)]
theorem oz_C2cls_10 : (oz_C2clsl_5).all (fun p => !tbz 49152 (Nat.add (Nat.mul 32 p.1) p.2)) = true := by decide +kernel

theorem C129 {σE : rS} {D N : Nat → Nat} {F : hF} {A : hA} {d c s : Nat} {Q : wQ} (H : HW V129 σE D N F A) {a1 a2 : Int} (pf1 : F 0 0 = (D 1 : Int)) (pf2 : F 1 0 = (D 2 : Int)) (pf3 : F 0 8 = (D 3 : Int)) (n2 : Int) (en2 : (N 2 : Int) = n2) (n3 : Int) (en3 : (N 3 : Int) = n3) (u0_6 : Int) (eu0_6 : F 0 6 = u0_6) (u0_10 : Int) (eu0_10 : F 0 10 = u0_10) (u0_11 : Int) (eu0_11 : F 0 11 = u0_11) (u0_12 : Int) (eu0_12 : F 0 12 = u0_12) (u0_14 : Int) (eu0_14 : F 0 14 = u0_14) (u0_15 : Int) (eu0_15 : F 0 15 = u0_15) (u1_1 : Int) (eu1_1 : F 1 1 = u1_1) (w2 : Int → Int) (ew2 : A 2 = w2) (w3 : Int → Int) (ew3 : A 3 = w3) (h0 : inr (a1)) (h1 : inr (a2)) (h2 : 0 ≤ (u1_1) ∧ (u1_1) ≤ (n2) ∧ (n2) ≤ 65536 ∧ (u1_1) ≤ 16384) (h3 : (u0_12) ≤ (u1_1)) (h4 : 1 ≤ (u0_10) ∧ (u0_10) ≤ 8) (h5 : 0 ≤ (a1) ∧ (a1) < (u0_6)) (h6 : (u0_6) ≤ (n3) ∧ (n3) ≤ 16384) (h7 : BKI ((w2)) ((w3)) ((u0_10)) ((u0_6))) (h8 : 1 ≤ (a2) ∧ (u0_10) ≤ (a2)) (k : ∀ (z : Int) (σ : rS) (Fₚ : hF) (Aₚ : hA), HW V129 σ D N Fₚ Aₚ → OUT (V129).length D N σE c s D N σ c s → SF [(0, 14), (0, 15)] F Fₚ → SA [] A Aₚ → ∀ y0_14 : Int, Fₚ 0 14 = y0_14 → ∀ y0_15 : Int, Fₚ 0 15 = y0_15 → ((z) = 0 ∨ (z) = 1) → ((z) = 1 → (a2) ≤ (y0_14) ∧ (a1) + (y0_14) ≤ (u0_12) ∧ 1 ≤ (y0_15) ∧ (y0_15) ≤ (a1)) → (NRQ ((w2)) ((u0_12)) ((u0_11)) ((a2)) ((a1)) ((z) * (y0_14)) ((y0_15))) → Q (some (I z)) σ c s) : Ew 129 (d + 1) 0 (rargs 0 [.ref (D 0), I a1, I a2]) [] σE c s Q := by
  have O := OUT_refl (n := (V129).length) (D := D) (N := N) (σ := σE) (c := c) (s := s)
  have HE := H
  have r1 : (-2147483648 : Int) ≤ u0_6 ∧ u0_6 ≤ 2147483647 := rngE (show (-2147483648 : Int) ≤ F 0 6 ∧ F 0 6 ≤ 2147483647 from H.krg 0 6 (ltn len_V129_oz_C2cls rfl)) (show F 0 6 = u0_6 from (eu0_6))
  have r2 : (-2147483648 : Int) ≤ u0_10 ∧ u0_10 ≤ 2147483647 := rngE (show (-2147483648 : Int) ≤ F 0 10 ∧ F 0 10 ≤ 2147483647 from H.krg 0 10 (ltn len_V129_oz_C2cls rfl)) (show F 0 10 = u0_10 from (eu0_10))
  have r3 : (-2147483648 : Int) ≤ u0_11 ∧ u0_11 ≤ 2147483647 := rngE (show (-2147483648 : Int) ≤ F 0 11 ∧ F 0 11 ≤ 2147483647 from H.krg 0 11 (ltn len_V129_oz_C2cls rfl)) (show F 0 11 = u0_11 from (eu0_11))
  have r4 : (-2147483648 : Int) ≤ u0_12 ∧ u0_12 ≤ 2147483647 := rngE (show (-2147483648 : Int) ≤ F 0 12 ∧ F 0 12 ≤ 2147483647 from H.krg 0 12 (ltn len_V129_oz_C2cls rfl)) (show F 0 12 = u0_12 from (eu0_12))
  have r5 : (-2147483648 : Int) ≤ u0_14 ∧ u0_14 ≤ 2147483647 := rngE (show (-2147483648 : Int) ≤ F 0 14 ∧ F 0 14 ≤ 2147483647 from H.krg 0 14 (ltn len_V129_oz_C2cls rfl)) (show F 0 14 = u0_14 from (eu0_14))
  have r6 : (-2147483648 : Int) ≤ u0_15 ∧ u0_15 ≤ 2147483647 := rngE (show (-2147483648 : Int) ≤ F 0 15 ∧ F 0 15 ≤ 2147483647 from H.krg 0 15 (ltn len_V129_oz_C2cls rfl)) (show F 0 15 = u0_15 from (eu0_15))
  have r7 : (-2147483648 : Int) ≤ u1_1 ∧ u1_1 ≤ 2147483647 := rngE (show (-2147483648 : Int) ≤ F 1 1 ∧ F 1 1 ≤ 2147483647 from H.krg 1 1 (ltn len_V129_oz_C2cls rfl)) (show F 1 1 = u1_1 from (eu1_1))
  have r8 : (0 : Int) ≤ n2 ∧ n2 ≤ 1000000 := nleE (H.nle 2 (ltn len_V129_oz_C2cls rfl)) (show (N 2 : Int) = n2 from en2)
  have r9 : (0 : Int) ≤ n3 ∧ n3 ≤ 1000000 := nleE (H.nle 3 (ltn len_V129_oz_C2cls rfl)) (show (N 3 : Int) = n3 from en3)
  have hbk : BKI ((w2)) ((w3)) ((u0_10)) ((u0_6)) := h7
  refine Ew_of (pcₚ := 1) (fun _ => x_aload_n rfl rfl) ?_
  refine v_g H (o := 0) (v := .ref (D 3)) rfl rfl rfl rfl rfl (vrf (pf3)) ?_
  refine Ew_of (pcₚ := 5) (fun _ => x_iload_n rfl rfl) ?_
  refine v_lI H (o := 3) rfl rfl rfl rfl (n := n3) (en3) (show 0 ≤ a1 ∧ a1 < n3 from q_103 h5 h6) (fun v10 ev10 qv10 => ?_)
  have ev10 : (w3) (a1) = v10 := (congrFun (ew3) (a1)).symm.trans ev10
  have hr0 : RF ((w2)) ((u0_12)) ((a1)) ((a2)) ((v10)) := RF_mono (RF_0 hbk (by omega) (by omega) ev10) (by omega)
  have hb6 := hbk ((a1)) (by omega) (by omega)
  rw [ev10] at hb6
  have hb7 : -1 ≤ (v10) ∧ (v10) < (a1) := ⟨hb6.1, hb6.2.1⟩
  have hh6 : IMP ((0 : Int) ≤ (v10)) (hsh ((w2)) ((u0_10)) ((v10)) = hsh ((w2)) ((u0_10)) ((a1))) := fun z => hb6.2.2.1 z
  (try clear hb6)
  refine Ew_of (pcₚ := 7) (fun _ => x_istore_n rfl) ?_
  refine Ew_of (pcₚ := 8) (fun _ => x_iconst rfl) ?_
  refine Ew_of (pcₚ := 10) (fun _ => x_istore rfl) ?_
  suffices hl10 : ∀ (m : Nat), ∀ (ls : rO) (σ : rS) (F_10 : hF) (A_10 : hA) (x10_3 : Int) (x10_4 : Int), rlook ls 0 = some (.ref (D 0)) → rlook ls 1 = some (I (a1)) → rlook ls 2 = some (I (a2)) → rlook ls 3 = some (I (x10_3)) → rlook ls 4 = some (I (x10_4)) → HW V129 σ D N F_10 A_10 → OUT (V129).length D N σE c s D N σ c s → SF [] F F_10 → SA [] A A_10 → (inr (x10_3)) → (inr (x10_4)) → ((0) ≤ (x10_4)) → ((x10_4) ≤ (0) ∨ (x10_4) ≤ ((a1))) → (-1 ≤ (x10_3) ∧ (x10_3) < (a1)) → ((x10_3) ≤ (a1) - 1 - (x10_4)) → (RF ((w2)) ((u0_12)) ((a1)) ((a2)) ((x10_3))) → (IMP ((0 : Int) ≤ (x10_3)) (hsh ((w2)) ((u0_10)) ((x10_3)) = hsh ((w2)) ((u0_10)) ((a1)))) → (((a1)) - (x10_4)).toNat = m → Ew 129 (d + 1) 10 ls [] σ c s Q from
    hl10 _ _ _ _ _ (v10) (0) (rk_o (rk_o (rfl) rfl rfl) rfl rfl) (rk_o (rk_o (rfl) rfl rfl) rfl rfl) (rk_o (rk_o (rfl) rfl rfl) rfl rfl) (rk_o (rk_s) rfl rfl) (rk_s) H O (SF_refl) (SA_refl)     (show inr (v10) from qv10) (show inr (0) from q_2) (show (0) ≤ (0) from q_1) (show (0) ≤ (0) ∨ (0) ≤ ((a1)) from q_5) (show -1 ≤ (v10) ∧ (v10) < (a1) from hb7) (show (v10) ≤ (a1) - 1 - (0) from q_104 hb7) (hr0) (hh6) rfl
  as_aux_lemma =>
  intro m
  induction m using Nat.strongRecOn with
  | _ m ih10 =>
    intro ls σ F_10 A_10 x10_3 x10_4 l10_0 l10_1 l10_2 l10_3 l10_4 H O hS_10 hA_10     j10_0 j10_1 j10_2 j10_3 j10_4 j10_5 j10_6 j10_7 hm10
    have cF_10 : SF oz_C2clsl_5 F F_10 := SF_trans (SF_refl) hS_10 (any_sub (by decide +kernel))
    have mF_10 := SFm_of cF_10 oz_C2cls_10
    have cA_10 : SA oz_C2clsl_4 A A_10 := SA_trans (SA_refl) hA_10 (any_subA (by decide +kernel))
    have mA_10 := SAm_of cA_10 oz_C2cls_7
    have j10_r : RF ((w2)) ((u0_12)) ((a1)) ((a2)) ((x10_3)) := j10_6
    have j10_h : IMP ((0 : Int) ≤ (x10_3)) (hsh ((w2)) ((u0_10)) ((x10_3)) = hsh ((w2)) ((u0_10)) ((a1))) := j10_7
    refine Ew_of (pcₚ := 12) (fun _ => x_iload rfl l10_4) ?_
    refine Ew_of (pcₚ := 13) (fun _ => x_iload_n rfl l10_1) ?_
    refine w_icmpge (t := 72) rfl rfl (show inr (x10_4) from j10_1) (show inr (a1) from h0) (fun b11 => ?_) (fun b11 => ?_)
    · refine Ew_of (pcₚ := 73) (fun _ => x_iconst rfl) ?_
      have : NRQ ((w2)) ((u0_12)) ((u0_11)) ((a2)) ((a1)) (0 * (u0_14)) ((u0_15)) := by rw [Int.zero_mul]; exact NRQ_n j10_r (by omega)
      exact w_ireturn rfl (k (0) _ _ _ H O (cF_10) (cA_10) (u0_14) (((hS_10 0 14 rfl).trans (eu0_14))) (u0_15) (((hS_10 0 15 rfl).trans (eu0_15))) (show (0) = 0 ∨ (0) = 1 by first | exact q_45 | omega) (show (0) = 1 → a2 ≤ (u0_14) ∧ a1 + (u0_14) ≤ (u0_12) ∧ 1 ≤ (u0_15) ∧ (u0_15) ≤ a1 by first | exact q_105 h0 h1 h5 r4 r5 r6 | omega) (show NRQ ((w2)) ((u0_12)) ((u0_11)) (a2) (a1) ((0) * (u0_14)) ((u0_15)) by assumption))
    · refine Ew_of (pcₚ := 17) (fun _ => x_iload_n rfl l10_3) ?_
      refine w_iflt (t := 72) rfl rfl (show inr (x10_3) from j10_0) (fun b12 => ?_) (fun b12 => ?_)
      · refine Ew_of (pcₚ := 73) (fun _ => x_iconst rfl) ?_
        have : NRQ ((w2)) ((u0_12)) ((u0_11)) ((a2)) ((a1)) (0 * (u0_14)) ((u0_15)) := by rw [Int.zero_mul]; exact NRQ_n j10_r (by omega)
        exact w_ireturn rfl (k (0) _ _ _ H O (cF_10) (cA_10) (u0_14) (((hS_10 0 14 rfl).trans (eu0_14))) (u0_15) (((hS_10 0 15 rfl).trans (eu0_15))) (show (0) = 0 ∨ (0) = 1 by first | exact q_45 | omega) (show (0) = 1 → a2 ≤ (u0_14) ∧ a1 + (u0_14) ≤ (u0_12) ∧ 1 ≤ (u0_15) ∧ (u0_15) ≤ a1 by first | exact q_105 h0 h1 h5 r4 r5 r6 | omega) (show NRQ ((w2)) ((u0_12)) ((u0_11)) (a2) (a1) ((0) * (u0_14)) ((u0_15)) by assumption))
      · refine Ew_of (pcₚ := 21) (fun _ => x_iload_n rfl l10_1) ?_
        refine Ew_of (pcₚ := 22) (fun _ => x_iload_n rfl l10_3) ?_
        refine w_isub rfl ?_
        refine Ew_of (pcₚ := 24) (fun _ => x_aload_n rfl l10_0) ?_
        refine v_g H (o := 0) (v := I (u0_11)) rfl rfl rfl rfl rfl (congrArg (fun z : Int => I z) (((mF_10 0 11 rfl).trans (eu0_11)) : F_10 0 11 = u0_11)) ?_
        refine w_icmpgt (t := 72) rfl rfl (show inr ((a1 - x10_3)) from q_106 b12 h0 j10_4) (show inr (u0_11) from q_18 r3) (fun b13 => ?_) (fun b13 => ?_)
        · refine Ew_of (pcₚ := 73) (fun _ => x_iconst rfl) ?_
          have : NRQ ((w2)) ((u0_12)) ((u0_11)) ((a2)) ((a1)) (0 * (u0_14)) ((u0_15)) := by rw [Int.zero_mul]; exact NRQ_n j10_r (by omega)
          exact w_ireturn rfl (k (0) _ _ _ H O (cF_10) (cA_10) (u0_14) (((hS_10 0 14 rfl).trans (eu0_14))) (u0_15) (((hS_10 0 15 rfl).trans (eu0_15))) (show (0) = 0 ∨ (0) = 1 by first | exact q_45 | omega) (show (0) = 1 → a2 ≤ (u0_14) ∧ a1 + (u0_14) ≤ (u0_12) ∧ 1 ≤ (u0_15) ∧ (u0_15) ≤ a1 by first | exact q_105 h0 h1 h5 r4 r5 r6 | omega) (show NRQ ((w2)) ((u0_12)) ((u0_11)) (a2) (a1) ((0) * (u0_14)) ((u0_15)) by assumption))
        · refine Ew_of (pcₚ := 31) (fun _ => x_aload_n rfl l10_0) ?_
          refine Ew_of (pcₚ := 32) (fun _ => x_iload_n rfl l10_3) ?_
          refine Ew_of (pcₚ := 33) (fun _ => x_iload_n rfl l10_1) ?_
          refine v_inv H (o := 0) rfl rfl rfl rfl rfl rfl (by rfl) (C128 (D := puc 524800 D) (N := puc 524800 N) (HW_subc H oz_C2cls_9 oz_C2cls_4) ((mF_10 0 0 rfl).trans (pf1)) ((mF_10 1 0 rfl).trans (pf2)) (n2) (en2) (u0_12) (((mF_10 0 12 rfl).trans (eu0_12))) (u1_1) (((mF_10 1 1 rfl).trans (eu1_1))) (w2) ((funext (mA_10 2 rfl)).trans (ew2)) (show inr (x10_3) from j10_0) (show inr (a1) from h0) (show 0 ≤ (u1_1) ∧ (u1_1) ≤ (n2) ∧ (n2) ≤ 65536 ∧ (u1_1) ≤ 16384 from h2) (show (u0_12) ≤ (u1_1) from h3) (show 0 ≤ (x10_3) ∧ (x10_3) ≤ (a1) ∧ (a1) ≤ 16384 from q_107 b12 h5 h6 j10_4) (fun z14 σ14 F14ₚ A14ₚ Hₚ Oₚ hS14 hA14 pz14_0 pz14_1 pz14_2 pz14_3 => ⟨rfl, ?_⟩))
          refine v_backc (c := c) (s := s) H oz_C2cls_9 oz_C2cls_4 Hₚ Oₚ (fun F14 A14 H Oₚ eF14 eA14 => ?_)
          have O := OUT_trans O Oₚ
          -- Finder.common
          have cF14 : SF oz_C2clsl_5 F F14 := SF_trans (cF_10) (SF_gluc (ι := oz_C2clsl_2) oz_C2cls_4 hS14 eF14 (by decide +kernel)) (any_sub (lₚ := []) (by decide +kernel))
          have mF14 := SFm_of cF14 oz_C2cls_10
          have cA14 : SA oz_C2clsl_4 A A14 := SA_trans (cA_10) (SA_gluc (ι := oz_C2clsl_2) oz_C2cls_4 hA14 eA14 (by decide +kernel)) (any_subA (lₚ := []) (by decide +kernel))
          have mA14 := SAm_of cA14 oz_C2cls_7
          have hcp : (z14) = cpl ((w2)) ((x10_3)) ((a1)) ((u0_12)) := pz14_3
          refine Ew_of (pcₚ := 38) (fun _ => x_istore rfl) ?_
          refine Ew_of (pcₚ := 40) (fun _ => x_iload rfl rk_s) ?_
          refine Ew_of (pcₚ := 41) (fun _ => x_iload_n rfl (rk_o (l10_2) rfl rfl)) ?_
          refine w_icmplt (t := 59) rfl rfl (show inr (z14) from pz14_0) (show inr (a2) from h1) (fun b15 => ?_) (fun b15 => ?_)
          · refine Ew_of (pcₚ := 60) (fun _ => x_aload_n rfl (rk_o (l10_0) rfl rfl)) ?_
            refine v_g H (o := 0) (v := .ref (D 3)) rfl rfl rfl rfl rfl (vrf ((mF14 0 8 rfl).trans (pf3))) ?_
            refine Ew_of (pcₚ := 64) (fun _ => x_iload_n rfl (rk_o (l10_3) rfl rfl)) ?_
            refine v_lI H (o := 3) rfl rfl rfl rfl (n := n3) (en3) (show 0 ≤ x10_3 ∧ x10_3 < n3 from q_108 b12 h5 h6 j10_4) (fun v16 ev16 qv16 => ?_)
            have ev16 : (w3) (x10_3) = v16 := (congrFun ((funext (mA14 3 rfl)).trans (ew3)) (x10_3)).symm.trans ev16
            have hr1 : RF ((w2)) ((u0_12)) ((a1)) ((a2)) ((v16)) := RF_s j10_r (by rw [← hcp]; omega) (BKI_gap hbk (by omega) (by omega) (j10_h (by omega)) ev16) (by omega)
            have hb6 := hbk ((x10_3)) (by omega) (by omega)
            rw [ev16] at hb6
            have hb7 : -1 ≤ (v16) ∧ (v16) < (x10_3) := ⟨hb6.1, hb6.2.1⟩
            have hh7 : IMP ((0 : Int) ≤ (v16)) (hsh ((w2)) ((u0_10)) ((v16)) = hsh ((w2)) ((u0_10)) ((a1))) := fun z => (hb6.2.2.1 z).trans (j10_h (by omega))
            (try clear hb6)
            refine Ew_of (pcₚ := 66) (fun _ => x_istore_n rfl) ?_
            refine Ew_of (pcₚ := 69) (fun _ => x_iinc (len := 3) rfl (rk_o (rk_o (l10_4) rfl rfl) rfl rfl)) ?_
            refine Ew_of (pcₚ := 10) (fun _ => x_goto rfl rfl) ?_
            exact ih10 _ (msE hm10 q_16 (q_17 b11)) _ _ _ _ (v16) ((x10_4 + 1)) (rk_o (rk_o (rk_o (l10_0) rfl rfl) rfl rfl) rfl rfl) (rk_o (rk_o (rk_o (l10_1) rfl rfl) rfl rfl) rfl rfl) (rk_o (rk_o (rk_o (l10_2) rfl rfl) rfl rfl) rfl rfl) (rk_o (rk_s) rfl rfl) (rk_s) H O (SF_trans (hS_10) (SF_gluc (ι := oz_C2clsl_2) oz_C2cls_4 hS14 eF14 (by decide +kernel)) (any_sub (lₚ := []) (by decide +kernel))) (SA_trans (hA_10) (SA_gluc (ι := oz_C2clsl_2) oz_C2cls_4 hA14 eA14 (by decide +kernel)) (any_subA (lₚ := []) (by decide +kernel)))     (show inr (v16) from qv16) (show inr ((x10_4 + 1)) from q_111 b11 h5 h6 j10_2) (show (0) ≤ ((x10_4 + 1)) from q_14 j10_2) (show ((x10_4 + 1)) ≤ (0) ∨ ((x10_4 + 1)) ≤ ((a1)) from q_13 b11) (show -1 ≤ (v16) ∧ (v16) < (a1) from q_110 hb7 j10_4) (show (v16) ≤ (a1) - 1 - ((x10_4 + 1)) from q_109 hb7 j10_5) (hr1) (hh7) rfl
          · refine Ew_of (pcₚ := 45) (fun _ => x_aload_n rfl (rk_o (l10_0) rfl rfl)) ?_
            refine Ew_of (pcₚ := 47) (fun _ => x_iload rfl rk_s) ?_
            refine v_p H (o := 0) (z := z14) (v := I (z14)) rfl rfl rfl rfl rfl rfl rfl rfl (show (-2147483648 : Int) ≤ z14 ∧ z14 ≤ 2147483647 from q_112 pz14_0 pz14_1) (fun σ H Oₚ => ?_)
            have O := OUT_trans O Oₚ
            have cFu17 : SF oz_C2clsl_5 F (updF F14 0 14 (z14)) := SF_upd (cF14) rfl
            have mFu17 := SFm_of cFu17 oz_C2cls_10
            refine Ew_of (pcₚ := 51) (fun _ => x_aload_n rfl (rk_o (l10_0) rfl rfl)) ?_
            refine Ew_of (pcₚ := 52) (fun _ => x_iload_n rfl (rk_o (l10_1) rfl rfl)) ?_
            refine Ew_of (pcₚ := 53) (fun _ => x_iload_n rfl (rk_o (l10_3) rfl rfl)) ?_
            refine w_isub rfl ?_
            refine v_p H (o := 0) (z := (a1 - x10_3)) (v := I ((a1 - x10_3))) rfl rfl rfl rfl rfl rfl rfl rfl (show (-2147483648 : Int) ≤ (a1 - x10_3) ∧ (a1 - x10_3) ≤ 2147483647 from q_113 b12 h0 j10_4) (fun σ H Oₚ => ?_)
            have O := OUT_trans O Oₚ
            have cFu18 : SF oz_C2clsl_5 F (updF (updF F14 0 14 (z14)) 0 15 ((a1 - x10_3))) := SF_upd (cFu17) rfl
            have mFu18 := SFm_of cFu18 oz_C2cls_10
            refine Ew_of (pcₚ := 58) (fun _ => x_iconst rfl) ?_
            have : NRQ ((w2)) ((u0_12)) ((u0_11)) ((a2)) ((a1)) (1 * (z14)) (((a1 - x10_3))) := by rw [Int.one_mul]; exact NRQ_y j10_r hcp.symm (by omega) (by omega) (by omega) (by omega)
            exact w_ireturn rfl (k (1) _ _ _ H O (cFu18) (cA14) (z14) (rfl) ((a1 - x10_3)) (rfl) (show (1) = 0 ∨ (1) = 1 by first | exact q_49 | omega) (show (1) = 1 → a2 ≤ (z14) ∧ a1 + (z14) ≤ (u0_12) ∧ 1 ≤ ((a1 - x10_3)) ∧ ((a1 - x10_3)) ≤ a1 by first | exact q_114 b12 b15 h5 h6 h8 j10_4 pz14_2 r4 | omega) (show NRQ ((w2)) ((u0_12)) ((u0_11)) (a2) (a1) ((1) * (z14)) (((a1 - x10_3))) by assumption))
abbrev V130 : vV := [(0, 5, [(4, 0), (4, 0), (4, 0), (4, 0), (0, 0), (0, 0), (0, 0), (4, 0), (4, 0), (0, 0), (0, 0), (0, 0), (0, 0), (0, 0), (0, 0), (0, 0), (0, 0), (0, 0), (0, 0)]), (0, 7, [(4, 0), (0, 0), (1, 0), (0, 0), (0, 0)]), (1, 0, []), (1, 1, [])]
theorem len_V130_oz_C2cls : (V130).length = 4 := by decide +kernel
theorem oz_C2cls_12 : vsub V130 V128 [0, 1, 2] = true := by decide +kernel

theorem C130 {σE : rS} {D N : Nat → Nat} {F : hF} {A : hA} {d c s : Nat} {Q : wQ} (H : HW V130 σE D N F A) {a1 : Int} (pf1 : F 0 0 = (D 1 : Int)) (pf2 : F 1 0 = (D 2 : Int)) (pf3 : F 0 8 = (D 3 : Int)) (n2 : Int) (en2 : (N 2 : Int) = n2) (n3 : Int) (en3 : (N 3 : Int) = n3) (u0_6 : Int) (eu0_6 : F 0 6 = u0_6) (u0_10 : Int) (eu0_10 : F 0 10 = u0_10) (u0_11 : Int) (eu0_11 : F 0 11 = u0_11) (u0_12 : Int) (eu0_12 : F 0 12 = u0_12) (u0_14 : Int) (eu0_14 : F 0 14 = u0_14) (u0_15 : Int) (eu0_15 : F 0 15 = u0_15) (u0_16 : Int) (eu0_16 : F 0 16 = u0_16) (u0_17 : Int) (eu0_17 : F 0 17 = u0_17) (u0_18 : Int) (eu0_18 : F 0 18 = u0_18) (u1_1 : Int) (eu1_1 : F 1 1 = u1_1) (w2 : Int → Int) (ew2 : A 2 = w2) (w3 : Int → Int) (ew3 : A 3 = w3) (h0 : inr (a1)) (h1 : 0 ≤ (u1_1) ∧ (u1_1) ≤ (n2) ∧ (n2) ≤ 65536 ∧ (u1_1) ≤ 16384) (h2 : (u0_12) ≤ (u1_1)) (h3 : 1 ≤ (u0_10) ∧ (u0_10) ≤ 8) (h4 : 0 ≤ (a1) ∧ (a1) < (u0_6)) (h5 : (u0_6) ≤ (n3) ∧ (n3) ≤ 16384) (h6 : BKI ((w2)) ((w3)) ((u0_10)) ((u0_6))) (h7 : (u0_16) = -1 ∨ (u0_17) = 0 ∨ (u0_10) ≤ (u0_17) ∧ (u0_16) + (u0_17) ≤ (u0_12) ∧ 1 ≤ (u0_18) ∧ (u0_18) ≤ (u0_16)) (h8 : IMP ((0 : Int) ≤ (u0_16)) (LGQ ((w2)) ((u0_12)) ((u0_11)) ((u0_10)) ((u0_16)) ((u0_17)) ((u0_18)))) (k : ∀ (σ : rS) (Fₚ : hF) (Aₚ : hA), HW V130 σ D N Fₚ Aₚ → OUT (V130).length D N σE c s D N σ c s → SF [(0, 14), (0, 15)] F Fₚ → SA [] A Aₚ → ∀ y0_14 : Int, Fₚ 0 14 = y0_14 → ∀ y0_15 : Int, Fₚ 0 15 = y0_15 → ((y0_14) = 0 ∨ (u0_10) ≤ (y0_14) ∧ (a1) + (y0_14) ≤ (u0_12) ∧ 1 ≤ (y0_15) ∧ (y0_15) ≤ (a1)) → (LGQ ((w2)) ((u0_12)) ((u0_11)) ((u0_10)) ((a1)) ((y0_14)) ((y0_15))) → Q none σ c s) : Ew 130 (d + 1) 0 (rargs 0 [.ref (D 0), I a1]) [] σE c s Q := by
  have O := OUT_refl (n := (V130).length) (D := D) (N := N) (σ := σE) (c := c) (s := s)
  have HE := H
  have r1 : (-2147483648 : Int) ≤ u0_6 ∧ u0_6 ≤ 2147483647 := rngE (show (-2147483648 : Int) ≤ F 0 6 ∧ F 0 6 ≤ 2147483647 from H.krg 0 6 (ltn len_V130_oz_C2cls rfl)) (show F 0 6 = u0_6 from (eu0_6))
  have r2 : (-2147483648 : Int) ≤ u0_10 ∧ u0_10 ≤ 2147483647 := rngE (show (-2147483648 : Int) ≤ F 0 10 ∧ F 0 10 ≤ 2147483647 from H.krg 0 10 (ltn len_V130_oz_C2cls rfl)) (show F 0 10 = u0_10 from (eu0_10))
  have r3 : (-2147483648 : Int) ≤ u0_11 ∧ u0_11 ≤ 2147483647 := rngE (show (-2147483648 : Int) ≤ F 0 11 ∧ F 0 11 ≤ 2147483647 from H.krg 0 11 (ltn len_V130_oz_C2cls rfl)) (show F 0 11 = u0_11 from (eu0_11))
  have r4 : (-2147483648 : Int) ≤ u0_12 ∧ u0_12 ≤ 2147483647 := rngE (show (-2147483648 : Int) ≤ F 0 12 ∧ F 0 12 ≤ 2147483647 from H.krg 0 12 (ltn len_V130_oz_C2cls rfl)) (show F 0 12 = u0_12 from (eu0_12))
  have r5 : (-2147483648 : Int) ≤ u0_14 ∧ u0_14 ≤ 2147483647 := rngE (show (-2147483648 : Int) ≤ F 0 14 ∧ F 0 14 ≤ 2147483647 from H.krg 0 14 (ltn len_V130_oz_C2cls rfl)) (show F 0 14 = u0_14 from (eu0_14))
  have r6 : (-2147483648 : Int) ≤ u0_15 ∧ u0_15 ≤ 2147483647 := rngE (show (-2147483648 : Int) ≤ F 0 15 ∧ F 0 15 ≤ 2147483647 from H.krg 0 15 (ltn len_V130_oz_C2cls rfl)) (show F 0 15 = u0_15 from (eu0_15))
  have r7 : (-2147483648 : Int) ≤ u0_16 ∧ u0_16 ≤ 2147483647 := rngE (show (-2147483648 : Int) ≤ F 0 16 ∧ F 0 16 ≤ 2147483647 from H.krg 0 16 (ltn len_V130_oz_C2cls rfl)) (show F 0 16 = u0_16 from (eu0_16))
  have r8 : (-2147483648 : Int) ≤ u0_17 ∧ u0_17 ≤ 2147483647 := rngE (show (-2147483648 : Int) ≤ F 0 17 ∧ F 0 17 ≤ 2147483647 from H.krg 0 17 (ltn len_V130_oz_C2cls rfl)) (show F 0 17 = u0_17 from (eu0_17))
  have r9 : (-2147483648 : Int) ≤ u0_18 ∧ u0_18 ≤ 2147483647 := rngE (show (-2147483648 : Int) ≤ F 0 18 ∧ F 0 18 ≤ 2147483647 from H.krg 0 18 (ltn len_V130_oz_C2cls rfl)) (show F 0 18 = u0_18 from (eu0_18))
  have r10 : (-2147483648 : Int) ≤ u1_1 ∧ u1_1 ≤ 2147483647 := rngE (show (-2147483648 : Int) ≤ F 1 1 ∧ F 1 1 ≤ 2147483647 from H.krg 1 1 (ltn len_V130_oz_C2cls rfl)) (show F 1 1 = u1_1 from (eu1_1))
  have r11 : (0 : Int) ≤ n2 ∧ n2 ≤ 1000000 := nleE (H.nle 2 (ltn len_V130_oz_C2cls rfl)) (show (N 2 : Int) = n2 from en2)
  have r12 : (0 : Int) ≤ n3 ∧ n3 ≤ 1000000 := nleE (H.nle 3 (ltn len_V130_oz_C2cls rfl)) (show (N 3 : Int) = n3 from en3)
  have hbk : BKI ((w2)) ((w3)) ((u0_10)) ((u0_6)) := h6
  have hah : IMP ((0 : Int) ≤ (u0_16)) (LGQ ((w2)) ((u0_12)) ((u0_11)) ((u0_10)) ((u0_16)) ((u0_17)) ((u0_18))) := h8
  refine Ew_of (pcₚ := 1) (fun _ => x_iload_n rfl rfl) ?_
  refine Ew_of (pcₚ := 2) (fun _ => x_aload_n rfl rfl) ?_
  refine v_g H (o := 0) (v := I (u0_16)) rfl rfl rfl rfl rfl (congrArg (fun z : Int => I z) ((eu0_16) : F 0 16 = u0_16)) ?_
  refine w_icmpne (t := 25) rfl rfl (show inr (a1) from h0) (show inr (u0_16) from q_18 r7) (fun b13 => ?_) (fun b13 => ?_)
  · refine Ew_of (pcₚ := 26) (fun _ => x_aload_n rfl rfl) ?_
    refine Ew_of (pcₚ := 27) (fun _ => x_iconst rfl) ?_
    refine v_p H (o := 0) (z := 0) (v := I (0)) rfl rfl rfl rfl rfl rfl rfl rfl (show (-2147483648 : Int) ≤ 0 ∧ 0 ≤ 2147483647 from q_22) (fun σ H Oₚ => ?_)
    have O := OUT_trans O Oₚ
    have cFu14 : SF oz_C2clsl_5 F (updF F 0 14 (0)) := SF_upd (SF_refl) rfl
    have mFu14 := SFm_of cFu14 oz_C2cls_10
    refine Ew_of (pcₚ := 31) (fun _ => x_aload_n rfl rfl) ?_
    refine Ew_of (pcₚ := 32) (fun _ => x_iconst rfl) ?_
    refine v_p H (o := 0) (z := 0) (v := I (0)) rfl rfl rfl rfl rfl rfl rfl rfl (show (-2147483648 : Int) ≤ 0 ∧ 0 ≤ 2147483647 from q_22) (fun σ H Oₚ => ?_)
    have O := OUT_trans O Oₚ
    have cFu15 : SF oz_C2clsl_5 F (updF (updF F 0 14 (0)) 0 15 (0)) := SF_upd (cFu14) rfl
    have mFu15 := SFm_of cFu15 oz_C2cls_10
    refine Ew_of (pcₚ := 36) (fun _ => x_aload_n rfl rfl) ?_
    refine v_g H (o := 0) (v := .ref (D 3)) rfl rfl rfl rfl rfl (vrf ((mFu15 0 8 rfl).trans (pf3))) ?_
    refine Ew_of (pcₚ := 40) (fun _ => x_iload_n rfl rfl) ?_
    refine v_lI H (o := 3) rfl rfl rfl rfl (n := n3) (en3) (show 0 ≤ a1 ∧ a1 < n3 from q_103 h4 h5) (fun v16 ev16 qv16 => ?_)
    have ev16 : (w3) (a1) = v16 := (congrFun (ew3) (a1)).symm.trans ev16
    have hr0 : RF ((w2)) ((u0_12)) ((a1)) ((u0_10)) ((v16)) := RF_0 hbk (by omega) (by omega) ev16
    have hl0 : LBQ ((w2)) ((u0_12)) ((u0_11)) ((u0_10)) ((a1)) ((v16)) (0) (0) := LBQ_0 hr0
    have hb6 := hbk ((a1)) (by omega) (by omega)
    rw [ev16] at hb6
    have hb7 : -1 ≤ (v16) ∧ (v16) < (a1) := ⟨hb6.1, hb6.2.1⟩
    have hh6 : IMP ((0 : Int) ≤ (v16)) (hsh ((w2)) ((u0_10)) ((v16)) = hsh ((w2)) ((u0_10)) ((a1))) := fun z => hb6.2.2.1 z
    (try clear hb6)
    refine Ew_of (pcₚ := 42) (fun _ => x_istore_n rfl) ?_
    refine Ew_of (pcₚ := 43) (fun _ => x_iconst rfl) ?_
    refine Ew_of (pcₚ := 44) (fun _ => x_istore_n rfl) ?_
    suffices hl44 : ∀ (m : Nat), ∀ (ls : rO) (σ : rS) (F_44 : hF) (A_44 : hA) (x44_2 : Int) (x44_3 : Int), rlook ls 0 = some (.ref (D 0)) → rlook ls 1 = some (I (a1)) → rlook ls 2 = some (I (x44_2)) → rlook ls 3 = some (I (x44_3)) → HW V130 σ D N F_44 A_44 → OUT (V130).length D N σE c s D N σ c s → SF [(0, 14), (0, 15)] (updF (updF F 0 14 (0)) 0 15 (0)) F_44 → SA [] A A_44 → ∀ y44_0_14 : Int, F_44 0 14 = y44_0_14 → ∀ y44_0_15 : Int, F_44 0 15 = y44_0_15 → (inr (x44_2)) → (inr (x44_3)) → ((0) ≤ (x44_3)) → ((x44_3) ≤ (0) ∨ (x44_3) ≤ ((a1))) → (-1 ≤ (x44_2) ∧ (x44_2) < (a1)) → ((y44_0_14) = 0 ∨ (u0_10) ≤ (y44_0_14) ∧ (a1) + (y44_0_14) ≤ (u0_12) ∧ 1 ≤ (y44_0_15) ∧ (y44_0_15) ≤ (a1)) → ((y44_0_14) ≤ 16384) → ((x44_2) ≤ (a1) - 1 - (x44_3)) → (LBQ ((w2)) ((u0_12)) ((u0_11)) ((u0_10)) ((a1)) ((x44_2)) ((y44_0_14)) ((y44_0_15))) → (IMP ((0 : Int) ≤ (x44_2)) (hsh ((w2)) ((u0_10)) ((x44_2)) = hsh ((w2)) ((u0_10)) ((a1)))) → (((a1)) - (x44_3)).toNat = m → Ew 130 (d + 1) 44 ls [] σ c s Q from
      hl44 _ _ _ _ _ (v16) (0) (rk_o (rk_o (rfl) rfl rfl) rfl rfl) (rk_o (rk_o (rfl) rfl rfl) rfl rfl) (rk_o (rk_s) rfl rfl) (rk_s) H O (SF_refl) (SA_refl)   (0) (rfl) (0) (rfl)  (show inr (v16) from qv16) (show inr (0) from q_2) (show (0) ≤ (0) from q_1) (show (0) ≤ (0) ∨ (0) ≤ ((a1)) from q_5) (show -1 ≤ (v16) ∧ (v16) < (a1) from hb7) (show (0) = 0 ∨ (u0_10) ≤ (0) ∧ (a1) + (0) ≤ (u0_12) ∧ 1 ≤ (0) ∧ (0) ≤ (a1) from q_115) (show (0) ≤ 16384 from q_92) (show (v16) ≤ (a1) - 1 - (0) from q_104 hb7) (hl0) (hh6) rfl
    as_aux_lemma =>
    intro m
    induction m using Nat.strongRecOn with
    | _ m ih44 =>
      intro ls σ F_44 A_44 x44_2 x44_3 l44_0 l44_1 l44_2 l44_3 H O hS_44 hA_44   y44_0_14 ey44_0_14 y44_0_15 ey44_0_15  j44_0 j44_1 j44_2 j44_3 j44_4 j44_5 j44_6 j44_7 j44_8 j44_9 hm44
      have cF_44 : SF oz_C2clsl_5 F F_44 := SF_trans (cFu15) hS_44 (any_sub (by decide +kernel))
      have mF_44 := SFm_of cF_44 oz_C2cls_10
      have cA_44 : SA oz_C2clsl_4 A A_44 := SA_trans (SA_refl) hA_44 (any_subA (by decide +kernel))
      have mA_44 := SAm_of cA_44 oz_C2cls_7
      have r17 : (-2147483648 : Int) ≤ y44_0_14 ∧ y44_0_14 ≤ 2147483647 := rngE (show (-2147483648 : Int) ≤ F_44 0 14 ∧ F_44 0 14 ≤ 2147483647 from H.krg 0 14 (ltn len_V130_oz_C2cls rfl)) (show F_44 0 14 = y44_0_14 from (ey44_0_14))
      have r18 : (-2147483648 : Int) ≤ y44_0_15 ∧ y44_0_15 ≤ 2147483647 := rngE (show (-2147483648 : Int) ≤ F_44 0 15 ∧ F_44 0 15 ≤ 2147483647 from H.krg 0 15 (ltn len_V130_oz_C2cls rfl)) (show F_44 0 15 = y44_0_15 from (ey44_0_15))
      have j44_l : LBQ ((w2)) ((u0_12)) ((u0_11)) ((u0_10)) ((a1)) ((x44_2)) ((y44_0_14)) ((y44_0_15)) := j44_8
      have j44_h : IMP ((0 : Int) ≤ (x44_2)) (hsh ((w2)) ((u0_10)) ((x44_2)) = hsh ((w2)) ((u0_10)) ((a1))) := j44_9
      refine Ew_of (pcₚ := 45) (fun _ => x_iload_n rfl l44_3) ?_
      refine Ew_of (pcₚ := 46) (fun _ => x_iload_n rfl l44_1) ?_
      refine w_icmpge (t := 159) rfl rfl (show inr (x44_3) from j44_1) (show inr (a1) from h0) (fun b19 => ?_) (fun b19 => ?_)
      · have : LGQ ((w2)) ((u0_12)) ((u0_11)) ((u0_10)) ((a1)) ((y44_0_14)) ((y44_0_15)) := LBQ_end j44_l (by omega) (by omega)
        exact w_ret rfl (k _ _ _ H O (cF_44) (cA_44) (y44_0_14) ((ey44_0_14)) (y44_0_15) ((ey44_0_15)) (show (y44_0_14) = 0 ∨ (u0_10) ≤ (y44_0_14) ∧ a1 + (y44_0_14) ≤ (u0_12) ∧ 1 ≤ (y44_0_15) ∧ (y44_0_15) ≤ a1 from j44_5) (show LGQ ((w2)) ((u0_12)) ((u0_11)) ((u0_10)) (a1) ((y44_0_14)) ((y44_0_15)) by assumption))
      · refine Ew_of (pcₚ := 50) (fun _ => x_iload_n rfl l44_2) ?_
        refine w_iflt (t := 159) rfl rfl (show inr (x44_2) from j44_0) (fun b20 => ?_) (fun b20 => ?_)
        · have : LGQ ((w2)) ((u0_12)) ((u0_11)) ((u0_10)) ((a1)) ((y44_0_14)) ((y44_0_15)) := LBQ_end j44_l (by omega) (by omega)
          exact w_ret rfl (k _ _ _ H O (cF_44) (cA_44) (y44_0_14) ((ey44_0_14)) (y44_0_15) ((ey44_0_15)) (show (y44_0_14) = 0 ∨ (u0_10) ≤ (y44_0_14) ∧ a1 + (y44_0_14) ≤ (u0_12) ∧ 1 ≤ (y44_0_15) ∧ (y44_0_15) ≤ a1 from j44_5) (show LGQ ((w2)) ((u0_12)) ((u0_11)) ((u0_10)) (a1) ((y44_0_14)) ((y44_0_15)) by assumption))
        · refine Ew_of (pcₚ := 54) (fun _ => x_iload_n rfl l44_1) ?_
          refine Ew_of (pcₚ := 55) (fun _ => x_iload_n rfl l44_2) ?_
          refine w_isub rfl ?_
          refine Ew_of (pcₚ := 57) (fun _ => x_aload_n rfl l44_0) ?_
          refine v_g H (o := 0) (v := I (u0_11)) rfl rfl rfl rfl rfl (congrArg (fun z : Int => I z) (((mF_44 0 11 rfl).trans (eu0_11)) : F_44 0 11 = u0_11)) ?_
          refine w_icmpgt (t := 159) rfl rfl (show inr ((a1 - x44_2)) from q_106 b20 h0 j44_4) (show inr (u0_11) from q_18 r3) (fun b21 => ?_) (fun b21 => ?_)
          · have : LGQ ((w2)) ((u0_12)) ((u0_11)) ((u0_10)) ((a1)) ((y44_0_14)) ((y44_0_15)) := LBQ_end j44_l (by omega) (by omega)
            exact w_ret rfl (k _ _ _ H O (cF_44) (cA_44) (y44_0_14) ((ey44_0_14)) (y44_0_15) ((ey44_0_15)) (show (y44_0_14) = 0 ∨ (u0_10) ≤ (y44_0_14) ∧ a1 + (y44_0_14) ≤ (u0_12) ∧ 1 ≤ (y44_0_15) ∧ (y44_0_15) ≤ a1 from j44_5) (show LGQ ((w2)) ((u0_12)) ((u0_11)) ((u0_10)) (a1) ((y44_0_14)) ((y44_0_15)) by assumption))
          · refine Ew_of (pcₚ := 64) (fun _ => x_iload_n rfl l44_1) ?_
            refine Ew_of (pcₚ := 65) (fun _ => x_aload_n rfl l44_0) ?_
            refine v_g H (o := 0) (v := I (y44_0_14)) rfl rfl rfl rfl rfl (congrArg (fun z : Int => I z) ((ey44_0_14) : F_44 0 14 = y44_0_14)) ?_
            refine w_iadd rfl ?_
            refine Ew_of (pcₚ := 70) (fun _ => x_aload_n rfl l44_0) ?_
            refine v_g H (o := 0) (v := I (u0_12)) rfl rfl rfl rfl rfl (congrArg (fun z : Int => I z) (((mF_44 0 12 rfl).trans (eu0_12)) : F_44 0 12 = u0_12)) ?_
            refine w_icmpge (t := 159) rfl rfl (show inr ((a1 + y44_0_14)) from q_116 h4 h5 j44_6 r17) (show inr (u0_12) from q_18 r4) (fun b22 => ?_) (fun b22 => ?_)
            · have : LGQ ((w2)) ((u0_12)) ((u0_11)) ((u0_10)) ((a1)) ((y44_0_14)) ((y44_0_15)) := LBQ_end j44_l (by omega) (by omega)
              exact w_ret rfl (k _ _ _ H O (cF_44) (cA_44) (y44_0_14) ((ey44_0_14)) (y44_0_15) ((ey44_0_15)) (show (y44_0_14) = 0 ∨ (u0_10) ≤ (y44_0_14) ∧ a1 + (y44_0_14) ≤ (u0_12) ∧ 1 ≤ (y44_0_15) ∧ (y44_0_15) ≤ a1 from j44_5) (show LGQ ((w2)) ((u0_12)) ((u0_11)) ((u0_10)) (a1) ((y44_0_14)) ((y44_0_15)) by assumption))
            · refine Ew_of (pcₚ := 77) (fun _ => x_aload_n rfl l44_0) ?_
              refine v_g H (o := 0) (v := .ref (D 1)) rfl rfl rfl rfl rfl (vrf ((mF_44 0 0 rfl).trans (pf1))) ?_
              refine v_g H (o := 1) (v := .ref (D 2)) rfl rfl rfl rfl rfl (vrf ((mF_44 1 0 rfl).trans (pf2))) ?_
              refine Ew_of (pcₚ := 84) (fun _ => x_iload_n rfl l44_2) ?_
              refine Ew_of (pcₚ := 85) (fun _ => x_aload_n rfl l44_0) ?_
              refine v_g H (o := 0) (v := I (y44_0_14)) rfl rfl rfl rfl rfl (congrArg (fun z : Int => I z) ((ey44_0_14) : F_44 0 14 = y44_0_14)) ?_
              refine w_iadd rfl ?_
              refine v_lB H (o := 2) rfl rfl rfl rfl (n := n2) (en2) (show 0 ≤ (x44_2 + y44_0_14) ∧ (x44_2 + y44_0_14) < n2 from q_117 b20 b22 h1 h2 h3 j44_4 j44_5) (fun v23 ev23 qv23 => ?_)
              have ev23 : (w2) ((x44_2 + y44_0_14)) = v23 := (congrFun ((funext (mA_44 2 rfl)).trans (ew2)) ((x44_2 + y44_0_14))).symm.trans ev23
              refine Ew_of (pcₚ := 91) (fun _ => x_aload_n rfl l44_0) ?_
              refine v_g H (o := 0) (v := .ref (D 1)) rfl rfl rfl rfl rfl (vrf ((mF_44 0 0 rfl).trans (pf1))) ?_
              refine v_g H (o := 1) (v := .ref (D 2)) rfl rfl rfl rfl rfl (vrf ((mF_44 1 0 rfl).trans (pf2))) ?_
              refine Ew_of (pcₚ := 98) (fun _ => x_iload_n rfl l44_1) ?_
              refine Ew_of (pcₚ := 99) (fun _ => x_aload_n rfl l44_0) ?_
              refine v_g H (o := 0) (v := I (y44_0_14)) rfl rfl rfl rfl rfl (congrArg (fun z : Int => I z) ((ey44_0_14) : F_44 0 14 = y44_0_14)) ?_
              refine w_iadd rfl ?_
              refine v_lB H (o := 2) rfl rfl rfl rfl (n := n2) (en2) (show 0 ≤ (a1 + y44_0_14) ∧ (a1 + y44_0_14) < n2 from q_118 b22 h1 h2 h3 h4 j44_5) (fun v24 ev24 qv24 => ?_)
              have ev24 : (w2) ((a1 + y44_0_14)) = v24 := (congrFun ((funext (mA_44 2 rfl)).trans (ew2)) ((a1 + y44_0_14))).symm.trans ev24
              have hb1 := ev23
              have hb2 := ev24
              refine w_icmpne (t := 146) rfl rfl (show inr (v23) from q_97 qv23) (show inr (v24) from q_97 qv24) (fun b25 => ?_) (fun b25 => ?_)
              · refine Ew_of (pcₚ := 147) (fun _ => x_aload_n rfl l44_0) ?_
                refine v_g H (o := 0) (v := .ref (D 3)) rfl rfl rfl rfl rfl (vrf ((mF_44 0 8 rfl).trans (pf3))) ?_
                refine Ew_of (pcₚ := 151) (fun _ => x_iload_n rfl l44_2) ?_
                refine v_lI H (o := 3) rfl rfl rfl rfl (n := n3) (en3) (show 0 ≤ x44_2 ∧ x44_2 < n3 from q_108 b20 h4 h5 j44_4) (fun v26 ev26 qv26 => ?_)
                have ev26 : (w3) (x44_2) = v26 := (congrFun ((funext (mA_44 3 rfl)).trans (ew3)) (x44_2)).symm.trans ev26
                have hb6 := hbk ((x44_2)) (by omega) (by omega)
                rw [ev26] at hb6
                have hb7 : -1 ≤ (v26) ∧ (v26) < (x44_2) := ⟨hb6.1, hb6.2.1⟩
                have hh7 : IMP ((0 : Int) ≤ (v26)) (hsh ((w2)) ((u0_10)) ((v26)) = hsh ((w2)) ((u0_10)) ((a1))) := fun z => (hb6.2.2.1 z).trans (j44_h (by omega))
                (try clear hb6)
                have hl1 : LBQ ((w2)) ((u0_12)) ((u0_11)) ((u0_10)) ((a1)) ((v26)) ((y44_0_14)) ((y44_0_15)) := by first | exact LBQ_take j44_l hcp.symm (by omega) (by omega) (by omega) (by omega) (by omega) (BKI_gap hbk (by omega) (by omega) (j44_h (by omega)) ev26) hb7.2 | exact LBQ_skip j44_l (by omega) (by rw [← hcp]; omega) (BKI_gap hbk (by omega) (by omega) (j44_h (by omega)) ev26) hb7.2 | exact LBQ_skip j44_l (by omega) (.inl (cpl_lt (by rw [hb1, hb2]; omega) (by omega))) (BKI_gap hbk (by omega) (by omega) (j44_h (by omega)) ev26) hb7.2
                refine Ew_of (pcₚ := 153) (fun _ => x_istore_n rfl) ?_
                refine Ew_of (pcₚ := 156) (fun _ => x_iinc (len := 3) rfl (rk_o (l44_3) rfl rfl)) ?_
                refine Ew_of (pcₚ := 44) (fun _ => x_goto rfl rfl) ?_
                exact ih44 _ (msE hm44 q_16 (q_17 b19)) _ _ _ _ (v26) ((x44_3 + 1)) (rk_o (rk_o (l44_0) rfl rfl) rfl rfl) (rk_o (rk_o (l44_1) rfl rfl) rfl rfl) (rk_o (rk_s) rfl rfl) (rk_s) H O (hS_44) (hA_44)   (y44_0_14) ((ey44_0_14)) (y44_0_15) ((ey44_0_15))  (show inr (v26) from qv26) (show inr ((x44_3 + 1)) from q_111 b19 h4 h5 j44_2) (show (0) ≤ ((x44_3 + 1)) from q_14 j44_2) (show ((x44_3 + 1)) ≤ (0) ∨ ((x44_3 + 1)) ≤ ((a1)) from q_13 b19) (show -1 ≤ (v26) ∧ (v26) < (a1) from q_110 hb7 j44_4) (show (y44_0_14) = 0 ∨ (u0_10) ≤ (y44_0_14) ∧ (a1) + (y44_0_14) ≤ (u0_12) ∧ 1 ≤ (y44_0_15) ∧ (y44_0_15) ≤ (a1) from j44_5) (show (y44_0_14) ≤ 16384 from j44_6) (show (v26) ≤ (a1) - 1 - ((x44_3 + 1)) from q_109 hb7 j44_7) (hl1) (hh7) rfl
              · refine Ew_of (pcₚ := 108) (fun _ => x_aload_n rfl l44_0) ?_
                refine Ew_of (pcₚ := 109) (fun _ => x_iload_n rfl l44_2) ?_
                refine Ew_of (pcₚ := 110) (fun _ => x_iload_n rfl l44_1) ?_
                refine v_inv H (o := 0) rfl rfl rfl rfl rfl rfl (by rfl) (C128 (D := puc 524800 D) (N := puc 524800 N) (HW_subc H oz_C2cls_12 oz_C2cls_4) ((mF_44 0 0 rfl).trans (pf1)) ((mF_44 1 0 rfl).trans (pf2)) (n2) (en2) (u0_12) (((mF_44 0 12 rfl).trans (eu0_12))) (u1_1) (((mF_44 1 1 rfl).trans (eu1_1))) (w2) ((funext (mA_44 2 rfl)).trans (ew2)) (show inr (x44_2) from j44_0) (show inr (a1) from h0) (show 0 ≤ (u1_1) ∧ (u1_1) ≤ (n2) ∧ (n2) ≤ 65536 ∧ (u1_1) ≤ 16384 from h1) (show (u0_12) ≤ (u1_1) from h2) (show 0 ≤ (x44_2) ∧ (x44_2) ≤ (a1) ∧ (a1) ≤ 16384 from q_107 b20 h4 h5 j44_4) (fun z27 σ27 F27ₚ A27ₚ Hₚ Oₚ hS27 hA27 pz27_0 pz27_1 pz27_2 pz27_3 => ⟨rfl, ?_⟩))
                refine v_backc (c := c) (s := s) H oz_C2cls_12 oz_C2cls_4 Hₚ Oₚ (fun F27 A27 H Oₚ eF27 eA27 => ?_)
                have O := OUT_trans O Oₚ
                -- Finder.common
                have cF27 : SF oz_C2clsl_5 F F27 := SF_trans (cF_44) (SF_gluc (ι := oz_C2clsl_2) oz_C2cls_4 hS27 eF27 (by decide +kernel)) (any_sub (lₚ := []) (by decide +kernel))
                have mF27 := SFm_of cF27 oz_C2cls_10
                have cA27 : SA oz_C2clsl_4 A A27 := SA_trans (cA_44) (SA_gluc (ι := oz_C2clsl_2) oz_C2cls_4 hA27 eA27 (by decide +kernel)) (any_subA (lₚ := []) (by decide +kernel))
                have mA27 := SAm_of cA27 oz_C2cls_7
                have hcp : (z27) = cpl ((w2)) ((x44_2)) ((a1)) ((u0_12)) := pz27_3
                refine Ew_of (pcₚ := 115) (fun _ => x_istore rfl) ?_
                refine Ew_of (pcₚ := 117) (fun _ => x_iload rfl rk_s) ?_
                refine Ew_of (pcₚ := 118) (fun _ => x_aload_n rfl (rk_o (l44_0) rfl rfl)) ?_
                refine v_g H (o := 0) (v := I (u0_10)) rfl rfl rfl rfl rfl (congrArg (fun z : Int => I z) (((mF27 0 10 rfl).trans (eu0_10)) : F27 0 10 = u0_10)) ?_
                refine w_icmplt (t := 146) rfl rfl (show inr (z27) from pz27_0) (show inr (u0_10) from q_59 h3) (fun b28 => ?_) (fun b28 => ?_)
                · refine Ew_of (pcₚ := 147) (fun _ => x_aload_n rfl (rk_o (l44_0) rfl rfl)) ?_
                  refine v_g H (o := 0) (v := .ref (D 3)) rfl rfl rfl rfl rfl (vrf ((mF27 0 8 rfl).trans (pf3))) ?_
                  refine Ew_of (pcₚ := 151) (fun _ => x_iload_n rfl (rk_o (l44_2) rfl rfl)) ?_
                  refine v_lI H (o := 3) rfl rfl rfl rfl (n := n3) (en3) (show 0 ≤ x44_2 ∧ x44_2 < n3 from q_108 b20 h4 h5 j44_4) (fun v29 ev29 qv29 => ?_)
                  have ev29 : (w3) (x44_2) = v29 := (congrFun ((funext (mA27 3 rfl)).trans (ew3)) (x44_2)).symm.trans ev29
                  have hb6 := hbk ((x44_2)) (by omega) (by omega)
                  rw [ev29] at hb6
                  have hb7 : -1 ≤ (v29) ∧ (v29) < (x44_2) := ⟨hb6.1, hb6.2.1⟩
                  have hh7 : IMP ((0 : Int) ≤ (v29)) (hsh ((w2)) ((u0_10)) ((v29)) = hsh ((w2)) ((u0_10)) ((a1))) := fun z => (hb6.2.2.1 z).trans (j44_h (by omega))
                  (try clear hb6)
                  have hl1 : LBQ ((w2)) ((u0_12)) ((u0_11)) ((u0_10)) ((a1)) ((v29)) ((y44_0_14)) ((y44_0_15)) := by first | exact LBQ_take j44_l hcp.symm (by omega) (by omega) (by omega) (by omega) (by omega) (BKI_gap hbk (by omega) (by omega) (j44_h (by omega)) ev29) hb7.2 | exact LBQ_skip j44_l (by omega) (by rw [← hcp]; omega) (BKI_gap hbk (by omega) (by omega) (j44_h (by omega)) ev29) hb7.2 | exact LBQ_skip j44_l (by omega) (.inl (cpl_lt (by rw [hb1, hb2]; omega) (by omega))) (BKI_gap hbk (by omega) (by omega) (j44_h (by omega)) ev29) hb7.2
                  refine Ew_of (pcₚ := 153) (fun _ => x_istore_n rfl) ?_
                  refine Ew_of (pcₚ := 156) (fun _ => x_iinc (len := 3) rfl (rk_o (rk_o (l44_3) rfl rfl) rfl rfl)) ?_
                  refine Ew_of (pcₚ := 44) (fun _ => x_goto rfl rfl) ?_
                  exact ih44 _ (msE hm44 q_16 (q_17 b19)) _ _ _ _ (v29) ((x44_3 + 1)) (rk_o (rk_o (rk_o (l44_0) rfl rfl) rfl rfl) rfl rfl) (rk_o (rk_o (rk_o (l44_1) rfl rfl) rfl rfl) rfl rfl) (rk_o (rk_s) rfl rfl) (rk_s) H O (SF_trans (hS_44) (SF_gluc (ι := oz_C2clsl_2) oz_C2cls_4 hS27 eF27 (by decide +kernel)) (any_sub (lₚ := []) (by decide +kernel))) (SA_trans (hA_44) (SA_gluc (ι := oz_C2clsl_2) oz_C2cls_4 hA27 eA27 (by decide +kernel)) (any_subA (lₚ := []) (by decide +kernel)))   (y44_0_14) ((((show F27 0 14 = F_44 0 14 from (eF27 0 14).trans (hS27 0 14 rfl))).trans (ey44_0_14))) (y44_0_15) ((((show F27 0 15 = F_44 0 15 from (eF27 0 15).trans (hS27 0 15 rfl))).trans (ey44_0_15)))  (show inr (v29) from qv29) (show inr ((x44_3 + 1)) from q_111 b19 h4 h5 j44_2) (show (0) ≤ ((x44_3 + 1)) from q_14 j44_2) (show ((x44_3 + 1)) ≤ (0) ∨ ((x44_3 + 1)) ≤ ((a1)) from q_13 b19) (show -1 ≤ (v29) ∧ (v29) < (a1) from q_110 hb7 j44_4) (show (y44_0_14) = 0 ∨ (u0_10) ≤ (y44_0_14) ∧ (a1) + (y44_0_14) ≤ (u0_12) ∧ 1 ≤ (y44_0_15) ∧ (y44_0_15) ≤ (a1) from j44_5) (show (y44_0_14) ≤ 16384 from j44_6) (show (v29) ≤ (a1) - 1 - ((x44_3 + 1)) from q_109 hb7 j44_7) (hl1) (hh7) rfl
                · refine Ew_of (pcₚ := 126) (fun _ => x_iload rfl rk_s) ?_
                  refine Ew_of (pcₚ := 127) (fun _ => x_aload_n rfl (rk_o (l44_0) rfl rfl)) ?_
                  refine v_g H (o := 0) (v := I (y44_0_14)) rfl rfl rfl rfl rfl (congrArg (fun z : Int => I z) ((((show F27 0 14 = F_44 0 14 from (eF27 0 14).trans (hS27 0 14 rfl))).trans (ey44_0_14)) : F27 0 14 = y44_0_14)) ?_
                  refine w_icmple (t := 146) rfl rfl (show inr (z27) from pz27_0) (show inr (y44_0_14) from q_119 j44_6 r17) (fun b30 => ?_) (fun b30 => ?_)
                  · refine Ew_of (pcₚ := 147) (fun _ => x_aload_n rfl (rk_o (l44_0) rfl rfl)) ?_
                    refine v_g H (o := 0) (v := .ref (D 3)) rfl rfl rfl rfl rfl (vrf ((mF27 0 8 rfl).trans (pf3))) ?_
                    refine Ew_of (pcₚ := 151) (fun _ => x_iload_n rfl (rk_o (l44_2) rfl rfl)) ?_
                    refine v_lI H (o := 3) rfl rfl rfl rfl (n := n3) (en3) (show 0 ≤ x44_2 ∧ x44_2 < n3 from q_108 b20 h4 h5 j44_4) (fun v31 ev31 qv31 => ?_)
                    have ev31 : (w3) (x44_2) = v31 := (congrFun ((funext (mA27 3 rfl)).trans (ew3)) (x44_2)).symm.trans ev31
                    have hb6 := hbk ((x44_2)) (by omega) (by omega)
                    rw [ev31] at hb6
                    have hb7 : -1 ≤ (v31) ∧ (v31) < (x44_2) := ⟨hb6.1, hb6.2.1⟩
                    have hh7 : IMP ((0 : Int) ≤ (v31)) (hsh ((w2)) ((u0_10)) ((v31)) = hsh ((w2)) ((u0_10)) ((a1))) := fun z => (hb6.2.2.1 z).trans (j44_h (by omega))
                    (try clear hb6)
                    have hl1 : LBQ ((w2)) ((u0_12)) ((u0_11)) ((u0_10)) ((a1)) ((v31)) ((y44_0_14)) ((y44_0_15)) := by first | exact LBQ_take j44_l hcp.symm (by omega) (by omega) (by omega) (by omega) (by omega) (BKI_gap hbk (by omega) (by omega) (j44_h (by omega)) ev31) hb7.2 | exact LBQ_skip j44_l (by omega) (by rw [← hcp]; omega) (BKI_gap hbk (by omega) (by omega) (j44_h (by omega)) ev31) hb7.2 | exact LBQ_skip j44_l (by omega) (.inl (cpl_lt (by rw [hb1, hb2]; omega) (by omega))) (BKI_gap hbk (by omega) (by omega) (j44_h (by omega)) ev31) hb7.2
                    refine Ew_of (pcₚ := 153) (fun _ => x_istore_n rfl) ?_
                    refine Ew_of (pcₚ := 156) (fun _ => x_iinc (len := 3) rfl (rk_o (rk_o (l44_3) rfl rfl) rfl rfl)) ?_
                    refine Ew_of (pcₚ := 44) (fun _ => x_goto rfl rfl) ?_
                    exact ih44 _ (msE hm44 q_16 (q_17 b19)) _ _ _ _ (v31) ((x44_3 + 1)) (rk_o (rk_o (rk_o (l44_0) rfl rfl) rfl rfl) rfl rfl) (rk_o (rk_o (rk_o (l44_1) rfl rfl) rfl rfl) rfl rfl) (rk_o (rk_s) rfl rfl) (rk_s) H O (SF_trans (hS_44) (SF_gluc (ι := oz_C2clsl_2) oz_C2cls_4 hS27 eF27 (by decide +kernel)) (any_sub (lₚ := []) (by decide +kernel))) (SA_trans (hA_44) (SA_gluc (ι := oz_C2clsl_2) oz_C2cls_4 hA27 eA27 (by decide +kernel)) (any_subA (lₚ := []) (by decide +kernel)))   (y44_0_14) ((((show F27 0 14 = F_44 0 14 from (eF27 0 14).trans (hS27 0 14 rfl))).trans (ey44_0_14))) (y44_0_15) ((((show F27 0 15 = F_44 0 15 from (eF27 0 15).trans (hS27 0 15 rfl))).trans (ey44_0_15)))  (show inr (v31) from qv31) (show inr ((x44_3 + 1)) from q_111 b19 h4 h5 j44_2) (show (0) ≤ ((x44_3 + 1)) from q_14 j44_2) (show ((x44_3 + 1)) ≤ (0) ∨ ((x44_3 + 1)) ≤ ((a1)) from q_13 b19) (show -1 ≤ (v31) ∧ (v31) < (a1) from q_110 hb7 j44_4) (show (y44_0_14) = 0 ∨ (u0_10) ≤ (y44_0_14) ∧ (a1) + (y44_0_14) ≤ (u0_12) ∧ 1 ≤ (y44_0_15) ∧ (y44_0_15) ≤ (a1) from j44_5) (show (y44_0_14) ≤ 16384 from j44_6) (show (v31) ≤ (a1) - 1 - ((x44_3 + 1)) from q_109 hb7 j44_7) (hl1) (hh7) rfl
                  · refine Ew_of (pcₚ := 134) (fun _ => x_aload_n rfl (rk_o (l44_0) rfl rfl)) ?_
                    refine Ew_of (pcₚ := 136) (fun _ => x_iload rfl rk_s) ?_
                    refine v_p H (o := 0) (z := z27) (v := I (z27)) rfl rfl rfl rfl rfl rfl rfl rfl (show (-2147483648 : Int) ≤ z27 ∧ z27 ≤ 2147483647 from q_112 pz27_0 pz27_1) (fun σ H Oₚ => ?_)
                    have O := OUT_trans O Oₚ
                    have cFu32 : SF oz_C2clsl_5 F (updF F27 0 14 (z27)) := SF_upd (cF27) rfl
                    have mFu32 := SFm_of cFu32 oz_C2cls_10
                    refine Ew_of (pcₚ := 140) (fun _ => x_aload_n rfl (rk_o (l44_0) rfl rfl)) ?_
                    refine Ew_of (pcₚ := 141) (fun _ => x_iload_n rfl (rk_o (l44_1) rfl rfl)) ?_
                    refine Ew_of (pcₚ := 142) (fun _ => x_iload_n rfl (rk_o (l44_2) rfl rfl)) ?_
                    refine w_isub rfl ?_
                    refine v_p H (o := 0) (z := (a1 - x44_2)) (v := I ((a1 - x44_2))) rfl rfl rfl rfl rfl rfl rfl rfl (show (-2147483648 : Int) ≤ (a1 - x44_2) ∧ (a1 - x44_2) ≤ 2147483647 from q_113 b20 h0 j44_4) (fun σ H Oₚ => ?_)
                    have O := OUT_trans O Oₚ
                    have cFu33 : SF oz_C2clsl_5 F (updF (updF F27 0 14 (z27)) 0 15 ((a1 - x44_2))) := SF_upd (cFu32) rfl
                    have mFu33 := SFm_of cFu33 oz_C2cls_10
                    refine Ew_of (pcₚ := 147) (fun _ => x_aload_n rfl (rk_o (l44_0) rfl rfl)) ?_
                    refine v_g H (o := 0) (v := .ref (D 3)) rfl rfl rfl rfl rfl (vrf ((mFu33 0 8 rfl).trans (pf3))) ?_
                    refine Ew_of (pcₚ := 151) (fun _ => x_iload_n rfl (rk_o (l44_2) rfl rfl)) ?_
                    refine v_lI H (o := 3) rfl rfl rfl rfl (n := n3) (en3) (show 0 ≤ x44_2 ∧ x44_2 < n3 from q_108 b20 h4 h5 j44_4) (fun v34 ev34 qv34 => ?_)
                    have ev34 : (w3) (x44_2) = v34 := (congrFun ((funext (mA27 3 rfl)).trans (ew3)) (x44_2)).symm.trans ev34
                    have hb6 := hbk ((x44_2)) (by omega) (by omega)
                    rw [ev34] at hb6
                    have hb7 : -1 ≤ (v34) ∧ (v34) < (x44_2) := ⟨hb6.1, hb6.2.1⟩
                    have hh7 : IMP ((0 : Int) ≤ (v34)) (hsh ((w2)) ((u0_10)) ((v34)) = hsh ((w2)) ((u0_10)) ((a1))) := fun z => (hb6.2.2.1 z).trans (j44_h (by omega))
                    (try clear hb6)
                    have hl1 : LBQ ((w2)) ((u0_12)) ((u0_11)) ((u0_10)) ((a1)) ((v34)) ((z27)) (((a1 - x44_2))) := by first | exact LBQ_take j44_l hcp.symm (by omega) (by omega) (by omega) (by omega) (by omega) (BKI_gap hbk (by omega) (by omega) (j44_h (by omega)) ev34) hb7.2 | exact LBQ_skip j44_l (by omega) (by rw [← hcp]; omega) (BKI_gap hbk (by omega) (by omega) (j44_h (by omega)) ev34) hb7.2 | exact LBQ_skip j44_l (by omega) (.inl (cpl_lt (by rw [hb1, hb2]; omega) (by omega))) (BKI_gap hbk (by omega) (by omega) (j44_h (by omega)) ev34) hb7.2
                    refine Ew_of (pcₚ := 153) (fun _ => x_istore_n rfl) ?_
                    refine Ew_of (pcₚ := 156) (fun _ => x_iinc (len := 3) rfl (rk_o (rk_o (l44_3) rfl rfl) rfl rfl)) ?_
                    refine Ew_of (pcₚ := 44) (fun _ => x_goto rfl rfl) ?_
                    exact ih44 _ (msE hm44 q_16 (q_17 b19)) _ _ _ _ (v34) ((x44_3 + 1)) (rk_o (rk_o (rk_o (l44_0) rfl rfl) rfl rfl) rfl rfl) (rk_o (rk_o (rk_o (l44_1) rfl rfl) rfl rfl) rfl rfl) (rk_o (rk_s) rfl rfl) (rk_s) H O (SF_upd (SF_upd (SF_trans (hS_44) (SF_gluc (ι := oz_C2clsl_2) oz_C2cls_4 hS27 eF27 (by decide +kernel)) (any_sub (lₚ := []) (by decide +kernel))) rfl) rfl) (SA_trans (hA_44) (SA_gluc (ι := oz_C2clsl_2) oz_C2cls_4 hA27 eA27 (by decide +kernel)) (any_subA (lₚ := []) (by decide +kernel)))   (z27) (rfl) ((a1 - x44_2)) (rfl)  (show inr (v34) from qv34) (show inr ((x44_3 + 1)) from q_111 b19 h4 h5 j44_2) (show (0) ≤ ((x44_3 + 1)) from q_14 j44_2) (show ((x44_3 + 1)) ≤ (0) ∨ ((x44_3 + 1)) ≤ ((a1)) from q_13 b19) (show -1 ≤ (v34) ∧ (v34) < (a1) from q_110 hb7 j44_4) (show (z27) = 0 ∨ (u0_10) ≤ (z27) ∧ (a1) + (z27) ≤ (u0_12) ∧ 1 ≤ ((a1 - x44_2)) ∧ ((a1 - x44_2)) ≤ (a1) by omega) (show (z27) ≤ 16384 from q_120 h1 h2 h4 pz27_2) (show (v34) ≤ (a1) - 1 - ((x44_3 + 1)) from q_109 hb7 j44_7) (hl1) (hh7) rfl
  · refine Ew_of (pcₚ := 9) (fun _ => x_aload_n rfl rfl) ?_
    refine Ew_of (pcₚ := 10) (fun _ => x_aload_n rfl rfl) ?_
    refine v_g H (o := 0) (v := I (u0_17)) rfl rfl rfl rfl rfl (congrArg (fun z : Int => I z) ((eu0_17) : F 0 17 = u0_17)) ?_
    refine v_p H (o := 0) (z := u0_17) (v := I (u0_17)) rfl rfl rfl rfl rfl rfl rfl rfl (show (-2147483648 : Int) ≤ u0_17 ∧ u0_17 ≤ 2147483647 from r8) (fun σ H Oₚ => ?_)
    have O := OUT_trans O Oₚ
    have cFu35 : SF oz_C2clsl_5 F (updF F 0 14 (u0_17)) := SF_upd (SF_refl) rfl
    have mFu35 := SFm_of cFu35 oz_C2cls_10
    refine Ew_of (pcₚ := 17) (fun _ => x_aload_n rfl rfl) ?_
    refine Ew_of (pcₚ := 18) (fun _ => x_aload_n rfl rfl) ?_
    refine v_g H (o := 0) (v := I (u0_18)) rfl rfl rfl rfl rfl (congrArg (fun z : Int => I z) (((mFu35 0 18 rfl).trans (eu0_18)) : (updF F 0 14 (u0_17)) 0 18 = u0_18)) ?_
    refine v_p H (o := 0) (z := u0_18) (v := I (u0_18)) rfl rfl rfl rfl rfl rfl rfl rfl (show (-2147483648 : Int) ≤ u0_18 ∧ u0_18 ≤ 2147483647 from r9) (fun σ H Oₚ => ?_)
    have O := OUT_trans O Oₚ
    have cFu36 : SF oz_C2clsl_5 F (updF (updF F 0 14 (u0_17)) 0 15 (u0_18)) := SF_upd (cFu35) rfl
    have mFu36 := SFm_of cFu36 oz_C2cls_10
    have : LGQ ((w2)) ((u0_12)) ((u0_11)) ((u0_10)) ((a1)) ((u0_17)) ((u0_18)) := (show ((u0_16) : Int) = (a1) from q_121 b13) ▸ hah (by omega)
    exact w_ret rfl (k _ _ _ H O (cFu36) (SA_refl) (u0_17) (rfl) (u0_18) (rfl) (show (u0_17) = 0 ∨ (u0_10) ≤ (u0_17) ∧ a1 + (u0_17) ≤ (u0_12) ∧ 1 ≤ (u0_18) ∧ (u0_18) ≤ a1 by omega) (show LGQ ((w2)) ((u0_12)) ((u0_11)) ((u0_10)) (a1) ((u0_17)) ((u0_18)) by assumption))
abbrev V127 : vV := [(0, 5, [(4, 0), (4, 0), (4, 0), (4, 0), (0, 0), (0, 0), (0, 0), (4, 0), (4, 0), (0, 0), (0, 0), (0, 0), (0, 0), (0, 0), (0, 0), (0, 0), (0, 0), (0, 0), (0, 0)]), (0, 7, [(4, 0), (0, 0), (1, 0), (0, 0), (0, 0)]), (1, 0, []), (1, 1, [])]
theorem len_V127_oz_C2cls : (V127).length = 4 := by decide +kernel
theorem oz_C2cls_14 : vsub V127 V130 [0, 1, 2, 3] = true := by decide +kernel
theorem oz_C2cls_15 : vsub V127 V129 [0, 1, 2, 3] = true := by decide +kernel
def oz_C2clsl_6 : List (Nat × Nat) := [(0, 14), (0, 15), (0, 16), (0, 17), (0, 18)]
theorem oz_C2cls_16 : (oz_C2clsl_6).all (fun p => !tbz 507904 (Nat.add (Nat.mul 32 p.1) p.2)) = true := by decide +kernel
def oz_C2clsl_7 : List Nat := [0, 1, 2, 3]
theorem oz_C2cls_17 : okc oz_C2clsl_7 403177984 = true := by decide +kernel

theorem C127 {σE : rS} {D N : Nat → Nat} {F : hF} {A : hA} {d c s : Nat} {Q : wQ} (H : HW V127 σE D N F A) {a1 : Int} (pf1 : F 0 0 = (D 1 : Int)) (pf2 : F 1 0 = (D 2 : Int)) (pf3 : F 0 8 = (D 3 : Int)) (n2 : Int) (en2 : (N 2 : Int) = n2) (n3 : Int) (en3 : (N 3 : Int) = n3) (u0_6 : Int) (eu0_6 : F 0 6 = u0_6) (u0_9 : Int) (eu0_9 : F 0 9 = u0_9) (u0_10 : Int) (eu0_10 : F 0 10 = u0_10) (u0_11 : Int) (eu0_11 : F 0 11 = u0_11) (u0_12 : Int) (eu0_12 : F 0 12 = u0_12) (u0_13 : Int) (eu0_13 : F 0 13 = u0_13) (u0_14 : Int) (eu0_14 : F 0 14 = u0_14) (u0_15 : Int) (eu0_15 : F 0 15 = u0_15) (u0_16 : Int) (eu0_16 : F 0 16 = u0_16) (u0_17 : Int) (eu0_17 : F 0 17 = u0_17) (u0_18 : Int) (eu0_18 : F 0 18 = u0_18) (u1_1 : Int) (eu1_1 : F 1 1 = u1_1) (w2 : Int → Int) (ew2 : A 2 = w2) (w3 : Int → Int) (ew3 : A 3 = w3) (h0 : inr (a1)) (h1 : 0 ≤ (u1_1) ∧ (u1_1) ≤ (n2) ∧ (n2) ≤ 65536 ∧ (u1_1) ≤ 16384) (h2 : (u0_12) ≤ (u1_1)) (h3 : 1 ≤ (u0_10) ∧ (u0_10) ≤ 8) (h4 : 0 ≤ (a1) ∧ (a1) < (u0_6)) (h5 : (u0_6) ≤ (n3) ∧ (n3) ≤ 16384) (h6 : BKI ((w2)) ((w3)) ((u0_10)) ((u0_6))) (h7 : (u0_16) = -1 ∨ (u0_17) = 0 ∨ (u0_10) ≤ (u0_17) ∧ (u0_16) + (u0_17) ≤ (u0_12) ∧ 1 ≤ (u0_18) ∧ (u0_18) ≤ (u0_16)) (h8 : (u0_13) < (u0_6)) (h9 : (a1) ≤ (u0_13)) (h10 : IMP ((0 : Int) ≤ (u0_16)) (LGQ ((w2)) ((u0_12)) ((u0_11)) ((u0_10)) ((u0_16)) ((u0_17)) ((u0_18)))) (k : ∀ (z : Int) (σ : rS) (Fₚ : hF) (Aₚ : hA), HW V127 σ D N Fₚ Aₚ → OUT (V127).length D N σE c s D N σ c s → SF [(0, 14), (0, 15), (0, 16), (0, 17), (0, 18)] F Fₚ → SA [] A Aₚ → ∀ y0_14 : Int, Fₚ 0 14 = y0_14 → ∀ y0_15 : Int, Fₚ 0 15 = y0_15 → ∀ y0_16 : Int, Fₚ 0 16 = y0_16 → ∀ y0_17 : Int, Fₚ 0 17 = y0_17 → ∀ y0_18 : Int, Fₚ 0 18 = y0_18 → ((z) = 0 ∨ (z) = 1) → ((z) = 1 → (u0_10) ≤ (y0_14) ∧ (a1) + (y0_14) ≤ (u0_12) ∧ 1 ≤ (y0_15) ∧ (y0_15) ≤ (a1)) → ((y0_16) = -1 ∨ (y0_17) = 0 ∨ (u0_10) ≤ (y0_17) ∧ (y0_16) + (y0_17) ≤ (u0_12) ∧ 1 ≤ (y0_18) ∧ (y0_18) ≤ (y0_16)) → (MT ((w2)) ((u0_12)) ((u0_11)) ((u0_10)) ((u0_9)) ((u0_13)) ((a1)) ((z) * (y0_14)) ((y0_15))) → (IMP ((0 : Int) ≤ (y0_16)) (LGQ ((w2)) ((u0_12)) ((u0_11)) ((u0_10)) ((y0_16)) ((y0_17)) ((y0_18)))) → Q (some (I z)) σ c s) : Ew 127 (d + 2) 0 (rargs 0 [.ref (D 0), I a1]) [] σE c s Q := by
  have O := OUT_refl (n := (V127).length) (D := D) (N := N) (σ := σE) (c := c) (s := s)
  have HE := H
  have r1 : (-2147483648 : Int) ≤ u0_6 ∧ u0_6 ≤ 2147483647 := rngE (show (-2147483648 : Int) ≤ F 0 6 ∧ F 0 6 ≤ 2147483647 from H.krg 0 6 (ltn len_V127_oz_C2cls rfl)) (show F 0 6 = u0_6 from (eu0_6))
  have r2 : (-2147483648 : Int) ≤ u0_9 ∧ u0_9 ≤ 2147483647 := rngE (show (-2147483648 : Int) ≤ F 0 9 ∧ F 0 9 ≤ 2147483647 from H.krg 0 9 (ltn len_V127_oz_C2cls rfl)) (show F 0 9 = u0_9 from (eu0_9))
  have r3 : (-2147483648 : Int) ≤ u0_10 ∧ u0_10 ≤ 2147483647 := rngE (show (-2147483648 : Int) ≤ F 0 10 ∧ F 0 10 ≤ 2147483647 from H.krg 0 10 (ltn len_V127_oz_C2cls rfl)) (show F 0 10 = u0_10 from (eu0_10))
  have r4 : (-2147483648 : Int) ≤ u0_11 ∧ u0_11 ≤ 2147483647 := rngE (show (-2147483648 : Int) ≤ F 0 11 ∧ F 0 11 ≤ 2147483647 from H.krg 0 11 (ltn len_V127_oz_C2cls rfl)) (show F 0 11 = u0_11 from (eu0_11))
  have r5 : (-2147483648 : Int) ≤ u0_12 ∧ u0_12 ≤ 2147483647 := rngE (show (-2147483648 : Int) ≤ F 0 12 ∧ F 0 12 ≤ 2147483647 from H.krg 0 12 (ltn len_V127_oz_C2cls rfl)) (show F 0 12 = u0_12 from (eu0_12))
  have r6 : (-2147483648 : Int) ≤ u0_13 ∧ u0_13 ≤ 2147483647 := rngE (show (-2147483648 : Int) ≤ F 0 13 ∧ F 0 13 ≤ 2147483647 from H.krg 0 13 (ltn len_V127_oz_C2cls rfl)) (show F 0 13 = u0_13 from (eu0_13))
  have r7 : (-2147483648 : Int) ≤ u0_14 ∧ u0_14 ≤ 2147483647 := rngE (show (-2147483648 : Int) ≤ F 0 14 ∧ F 0 14 ≤ 2147483647 from H.krg 0 14 (ltn len_V127_oz_C2cls rfl)) (show F 0 14 = u0_14 from (eu0_14))
  have r8 : (-2147483648 : Int) ≤ u0_15 ∧ u0_15 ≤ 2147483647 := rngE (show (-2147483648 : Int) ≤ F 0 15 ∧ F 0 15 ≤ 2147483647 from H.krg 0 15 (ltn len_V127_oz_C2cls rfl)) (show F 0 15 = u0_15 from (eu0_15))
  have r9 : (-2147483648 : Int) ≤ u0_16 ∧ u0_16 ≤ 2147483647 := rngE (show (-2147483648 : Int) ≤ F 0 16 ∧ F 0 16 ≤ 2147483647 from H.krg 0 16 (ltn len_V127_oz_C2cls rfl)) (show F 0 16 = u0_16 from (eu0_16))
  have r10 : (-2147483648 : Int) ≤ u0_17 ∧ u0_17 ≤ 2147483647 := rngE (show (-2147483648 : Int) ≤ F 0 17 ∧ F 0 17 ≤ 2147483647 from H.krg 0 17 (ltn len_V127_oz_C2cls rfl)) (show F 0 17 = u0_17 from (eu0_17))
  have r11 : (-2147483648 : Int) ≤ u0_18 ∧ u0_18 ≤ 2147483647 := rngE (show (-2147483648 : Int) ≤ F 0 18 ∧ F 0 18 ≤ 2147483647 from H.krg 0 18 (ltn len_V127_oz_C2cls rfl)) (show F 0 18 = u0_18 from (eu0_18))
  have r12 : (-2147483648 : Int) ≤ u1_1 ∧ u1_1 ≤ 2147483647 := rngE (show (-2147483648 : Int) ≤ F 1 1 ∧ F 1 1 ≤ 2147483647 from H.krg 1 1 (ltn len_V127_oz_C2cls rfl)) (show F 1 1 = u1_1 from (eu1_1))
  have r13 : (0 : Int) ≤ n2 ∧ n2 ≤ 1000000 := nleE (H.nle 2 (ltn len_V127_oz_C2cls rfl)) (show (N 2 : Int) = n2 from en2)
  have r14 : (0 : Int) ≤ n3 ∧ n3 ≤ 1000000 := nleE (H.nle 3 (ltn len_V127_oz_C2cls rfl)) (show (N 3 : Int) = n3 from en3)
  have hah0 : IMP ((0 : Int) ≤ (u0_16)) (LGQ ((w2)) ((u0_12)) ((u0_11)) ((u0_10)) ((u0_16)) ((u0_17)) ((u0_18))) := h10
  refine Ew_of (pcₚ := 1) (fun _ => x_aload_n rfl rfl) ?_
  refine v_g H (o := 0) (v := I (u0_9)) rfl rfl rfl rfl rfl (congrArg (fun z : Int => I z) ((eu0_9) : F 0 9 = u0_9)) ?_
  refine Ew_of (pcₚ := 5) (fun _ => x_iconst rfl) ?_
  refine w_icmpge (t := 44) rfl rfl (show inr (u0_9) from q_18 r2) (show inr (2) from q_122) (fun b15 => ?_) (fun b15 => ?_)
  · refine Ew_of (pcₚ := 45) (fun _ => x_aload_n rfl rfl) ?_
    refine Ew_of (pcₚ := 46) (fun _ => x_iload_n rfl rfl) ?_
    refine v_inv H (o := 0) rfl rfl rfl rfl rfl rfl (by rfl) (C130 (D := puc 403177984 D) (N := puc 403177984 N) (HW_subc H oz_C2cls_14 oz_C2cls_17) (pf1) (pf2) (pf3) (n2) (en2) (n3) (en3) (u0_6) ((eu0_6)) (u0_10) ((eu0_10)) (u0_11) ((eu0_11)) (u0_12) ((eu0_12)) (u0_14) ((eu0_14)) (u0_15) ((eu0_15)) (u0_16) ((eu0_16)) (u0_17) ((eu0_17)) (u0_18) ((eu0_18)) (u1_1) ((eu1_1)) (w2) (ew2) (w3) (ew3) (show inr (a1) from h0) (show 0 ≤ (u1_1) ∧ (u1_1) ≤ (n2) ∧ (n2) ≤ 65536 ∧ (u1_1) ≤ 16384 from h1) (show (u0_12) ≤ (u1_1) from h2) (show 1 ≤ (u0_10) ∧ (u0_10) ≤ 8 from h3) (show 0 ≤ (a1) ∧ (a1) < (u0_6) from h4) (show (u0_6) ≤ (n3) ∧ (n3) ≤ 16384 from h5) (h6) (show (u0_16) = -1 ∨ (u0_17) = 0 ∨ (u0_10) ≤ (u0_17) ∧ (u0_16) + (u0_17) ≤ (u0_12) ∧ 1 ≤ (u0_18) ∧ (u0_18) ≤ (u0_16) from h7) (hah0) (fun σ16 F16ₚ A16ₚ Hₚ Oₚ hS16 hA16 y16_0_14 ey16_0_14 y16_0_15 ey16_0_15 pz16_0 pz16_1 => ⟨rfl, ?_⟩))
    refine v_backc (c := c) (s := s) H oz_C2cls_14 oz_C2cls_17 Hₚ Oₚ (fun F16 A16 H Oₚ eF16 eA16 => ?_)
    have O := OUT_trans O Oₚ
    -- Finder.longest
    have cF16 : SF oz_C2clsl_6 F F16 := SF_trans (SF_refl) (SF_gluc (ι := oz_C2clsl_7) oz_C2cls_17 hS16 eF16 (by decide +kernel)) (any_sub (lₚ := [(0, 14), (0, 15)]) (by decide +kernel))
    have mF16 := SFm_of cF16 oz_C2cls_16
    have cA16 : SA oz_C2clsl_4 A A16 := SA_trans (SA_refl) (SA_gluc (ι := oz_C2clsl_7) oz_C2cls_17 hA16 eA16 (by decide +kernel)) (any_subA (lₚ := []) (by decide +kernel))
    have mA16 := SAm_of cA16 oz_C2cls_7
    have r17 : (-2147483648 : Int) ≤ y16_0_14 ∧ y16_0_14 ≤ 2147483647 := rngE (show (-2147483648 : Int) ≤ F16 0 14 ∧ F16 0 14 ≤ 2147483647 from H.krg 0 14 (ltn len_V127_oz_C2cls rfl)) (show F16 0 14 = y16_0_14 from ((eF16 0 14).trans ey16_0_14))
    have r18 : (-2147483648 : Int) ≤ y16_0_15 ∧ y16_0_15 ≤ 2147483647 := rngE (show (-2147483648 : Int) ≤ F16 0 15 ∧ F16 0 15 ≤ 2147483647 from H.krg 0 15 (ltn len_V127_oz_C2cls rfl)) (show F16 0 15 = y16_0_15 from ((eF16 0 15).trans ey16_0_15))
    have hlg : LGQ ((w2)) ((u0_12)) ((u0_11)) ((u0_10)) ((a1)) ((y16_0_14)) ((y16_0_15)) := pz16_1
    refine Ew_of (pcₚ := 50) (fun _ => x_aload_n rfl rfl) ?_
    refine v_g H (o := 0) (v := I (y16_0_14)) rfl rfl rfl rfl rfl (congrArg (fun z : Int => I z) (((eF16 0 14).trans ey16_0_14) : F16 0 14 = y16_0_14)) ?_
    refine w_ifeq (t := 74) rfl rfl (show inr (y16_0_14) from q_18 r17) (fun b19 => ?_) (fun b19 => ?_)
    · refine Ew_of (pcₚ := 75) (fun _ => x_aload_n rfl rfl) ?_
      refine v_g H (o := 0) (v := I (y16_0_14)) rfl rfl rfl rfl rfl (congrArg (fun z : Int => I z) (((eF16 0 14).trans ey16_0_14) : F16 0 14 = y16_0_14)) ?_
      refine w_ifle (t := 85) rfl rfl (show inr (y16_0_14) from q_123 b19) (fun b20 => ?_) (fun b20 => ?_)
      · refine Ew_of (pcₚ := 86) (fun _ => x_iconst rfl) ?_
        have : MT ((w2)) ((u0_12)) ((u0_11)) ((u0_10)) ((u0_9)) ((u0_13)) ((a1)) ((0) * (y16_0_14)) ((y16_0_15)) := by rcases (show (u0_9) = 2 ∨ 3 ≤ (u0_9) by omega) with w | w <;> first | exact MT_2 w hlg (by omega) | exact MT_3z w hlg (by omega) | exact MT_3e w hlg (by omega) (by omega)
        exact w_ireturn rfl (k (0) _ _ _ H O (cF16) (cA16) (y16_0_14) (((eF16 0 14).trans ey16_0_14)) (y16_0_15) (((eF16 0 15).trans ey16_0_15)) (u0_16) ((((show F16 0 16 = F 0 16 from (eF16 0 16).trans (hS16 0 16 rfl))).trans (eu0_16))) (u0_17) ((((show F16 0 17 = F 0 17 from (eF16 0 17).trans (hS16 0 17 rfl))).trans (eu0_17))) (u0_18) ((((show F16 0 18 = F 0 18 from (eF16 0 18).trans (hS16 0 18 rfl))).trans (eu0_18))) (show (0) = 0 ∨ (0) = 1 by first | exact q_45 | omega) (show (0) = 1 → (u0_10) ≤ (y16_0_14) ∧ a1 + (y16_0_14) ≤ (u0_12) ∧ 1 ≤ (y16_0_15) ∧ (y16_0_15) ≤ a1 by first | exact q_124 b19 b20 h0 h3 h4 r18 r5 | omega) (show (u0_16) = -1 ∨ (u0_17) = 0 ∨ (u0_10) ≤ (u0_17) ∧ (u0_16) + (u0_17) ≤ (u0_12) ∧ 1 ≤ (u0_18) ∧ (u0_18) ≤ (u0_16) from h7) (show MT ((w2)) ((u0_12)) ((u0_11)) ((u0_10)) ((u0_9)) ((u0_13)) (a1) ((0) * (y16_0_14)) ((y16_0_15)) by assumption) (hah0))
      · refine Ew_of (pcₚ := 82) (fun _ => x_iconst rfl) ?_
        refine Ew_of (pcₚ := 86) (fun _ => x_goto rfl rfl) ?_
        have : MT ((w2)) ((u0_12)) ((u0_11)) ((u0_10)) ((u0_9)) ((u0_13)) ((a1)) ((1) * (y16_0_14)) ((y16_0_15)) := by rcases (show (u0_9) = 2 ∨ 3 ≤ (u0_9) by omega) with w | w <;> first | exact MT_2 w hlg (by omega) | exact MT_3z w hlg (by omega) | exact MT_3e w hlg (by omega) (by omega)
        exact w_ireturn rfl (k (1) _ _ _ H O (cF16) (cA16) (y16_0_14) (((eF16 0 14).trans ey16_0_14)) (y16_0_15) (((eF16 0 15).trans ey16_0_15)) (u0_16) ((((show F16 0 16 = F 0 16 from (eF16 0 16).trans (hS16 0 16 rfl))).trans (eu0_16))) (u0_17) ((((show F16 0 17 = F 0 17 from (eF16 0 17).trans (hS16 0 17 rfl))).trans (eu0_17))) (u0_18) ((((show F16 0 18 = F 0 18 from (eF16 0 18).trans (hS16 0 18 rfl))).trans (eu0_18))) (show (1) = 0 ∨ (1) = 1 by first | exact q_49 | omega) (show (1) = 1 → (u0_10) ≤ (y16_0_14) ∧ a1 + (y16_0_14) ≤ (u0_12) ∧ 1 ≤ (y16_0_15) ∧ (y16_0_15) ≤ a1 by first | exact q_125 b19 b20 h0 h3 h4 pz16_0 r18 r5 | omega) (show (u0_16) = -1 ∨ (u0_17) = 0 ∨ (u0_10) ≤ (u0_17) ∧ (u0_16) + (u0_17) ≤ (u0_12) ∧ 1 ≤ (u0_18) ∧ (u0_18) ≤ (u0_16) from h7) (show MT ((w2)) ((u0_12)) ((u0_11)) ((u0_10)) ((u0_9)) ((u0_13)) (a1) ((1) * (y16_0_14)) ((y16_0_15)) by assumption) (hah0))
    · refine Ew_of (pcₚ := 57) (fun _ => x_aload_n rfl rfl) ?_
      refine v_g H (o := 0) (v := I (u0_9)) rfl rfl rfl rfl rfl (congrArg (fun z : Int => I z) (((mF16 0 9 rfl).trans (eu0_9)) : F16 0 9 = u0_9)) ?_
      refine Ew_of (pcₚ := 61) (fun _ => x_iconst rfl) ?_
      refine w_icmpeq (t := 74) rfl rfl (show inr (u0_9) from q_126 b15 r2) (show inr (2) from q_122) (fun b21 => ?_) (fun b21 => ?_)
      · refine Ew_of (pcₚ := 75) (fun _ => x_aload_n rfl rfl) ?_
        refine v_g H (o := 0) (v := I (y16_0_14)) rfl rfl rfl rfl rfl (congrArg (fun z : Int => I z) (((eF16 0 14).trans ey16_0_14) : F16 0 14 = y16_0_14)) ?_
        refine w_ifle (t := 85) rfl rfl (show inr (y16_0_14) from q_18 r17) (fun b22 => ?_) (fun b22 => ?_)
        · refine Ew_of (pcₚ := 86) (fun _ => x_iconst rfl) ?_
          have : MT ((w2)) ((u0_12)) ((u0_11)) ((u0_10)) ((u0_9)) ((u0_13)) ((a1)) ((0) * (y16_0_14)) ((y16_0_15)) := by rcases (show (u0_9) = 2 ∨ 3 ≤ (u0_9) from q_127 b21) with w | w <;> first | exact MT_2 w hlg (by omega) | exact MT_3z w hlg (by omega) | exact MT_3e w hlg (by omega) (by omega)
          exact w_ireturn rfl (k (0) _ _ _ H O (cF16) (cA16) (y16_0_14) (((eF16 0 14).trans ey16_0_14)) (y16_0_15) (((eF16 0 15).trans ey16_0_15)) (u0_16) ((((show F16 0 16 = F 0 16 from (eF16 0 16).trans (hS16 0 16 rfl))).trans (eu0_16))) (u0_17) ((((show F16 0 17 = F 0 17 from (eF16 0 17).trans (hS16 0 17 rfl))).trans (eu0_17))) (u0_18) ((((show F16 0 18 = F 0 18 from (eF16 0 18).trans (hS16 0 18 rfl))).trans (eu0_18))) (show (0) = 0 ∨ (0) = 1 by first | exact q_45 | omega) (show (0) = 1 → (u0_10) ≤ (y16_0_14) ∧ a1 + (y16_0_14) ≤ (u0_12) ∧ 1 ≤ (y16_0_15) ∧ (y16_0_15) ≤ a1 by first | exact q_128 b22 h0 h3 h4 r17 r18 r5 | omega) (show (u0_16) = -1 ∨ (u0_17) = 0 ∨ (u0_10) ≤ (u0_17) ∧ (u0_16) + (u0_17) ≤ (u0_12) ∧ 1 ≤ (u0_18) ∧ (u0_18) ≤ (u0_16) from h7) (show MT ((w2)) ((u0_12)) ((u0_11)) ((u0_10)) ((u0_9)) ((u0_13)) (a1) ((0) * (y16_0_14)) ((y16_0_15)) by assumption) (hah0))
        · refine Ew_of (pcₚ := 82) (fun _ => x_iconst rfl) ?_
          refine Ew_of (pcₚ := 86) (fun _ => x_goto rfl rfl) ?_
          have : MT ((w2)) ((u0_12)) ((u0_11)) ((u0_10)) ((u0_9)) ((u0_13)) ((a1)) ((1) * (y16_0_14)) ((y16_0_15)) := by rcases (show (u0_9) = 2 ∨ 3 ≤ (u0_9) from q_127 b21) with w | w <;> first | exact MT_2 w hlg (by omega) | exact MT_3z w hlg (by omega) | exact MT_3e w hlg (by omega) (by omega)
          exact w_ireturn rfl (k (1) _ _ _ H O (cF16) (cA16) (y16_0_14) (((eF16 0 14).trans ey16_0_14)) (y16_0_15) (((eF16 0 15).trans ey16_0_15)) (u0_16) ((((show F16 0 16 = F 0 16 from (eF16 0 16).trans (hS16 0 16 rfl))).trans (eu0_16))) (u0_17) ((((show F16 0 17 = F 0 17 from (eF16 0 17).trans (hS16 0 17 rfl))).trans (eu0_17))) (u0_18) ((((show F16 0 18 = F 0 18 from (eF16 0 18).trans (hS16 0 18 rfl))).trans (eu0_18))) (show (1) = 0 ∨ (1) = 1 by first | exact q_49 | omega) (show (1) = 1 → (u0_10) ≤ (y16_0_14) ∧ a1 + (y16_0_14) ≤ (u0_12) ∧ 1 ≤ (y16_0_15) ∧ (y16_0_15) ≤ a1 by first | exact q_129 b22 h0 h3 h4 pz16_0 r18 r5 | omega) (show (u0_16) = -1 ∨ (u0_17) = 0 ∨ (u0_10) ≤ (u0_17) ∧ (u0_16) + (u0_17) ≤ (u0_12) ∧ 1 ≤ (u0_18) ∧ (u0_18) ≤ (u0_16) from h7) (show MT ((w2)) ((u0_12)) ((u0_11)) ((u0_10)) ((u0_9)) ((u0_13)) (a1) ((1) * (y16_0_14)) ((y16_0_15)) by assumption) (hah0))
      · refine Ew_of (pcₚ := 65) (fun _ => x_iload_n rfl rfl) ?_
        refine Ew_of (pcₚ := 66) (fun _ => x_iconst rfl) ?_
        refine w_iadd rfl ?_
        refine Ew_of (pcₚ := 68) (fun _ => x_aload_n rfl rfl) ?_
        refine v_g H (o := 0) (v := I (u0_13)) rfl rfl rfl rfl rfl (congrArg (fun z : Int => I z) (((mF16 0 13 rfl).trans (eu0_13)) : F16 0 13 = u0_13)) ?_
        refine w_icmple (t := 87) rfl rfl (show inr ((a1 + 1)) from q_130 h4 h5) (show inr (u0_13) from q_18 r6) (fun b23 => ?_) (fun b23 => ?_)
        · refine Ew_of (pcₚ := 88) (fun _ => x_aload_n rfl rfl) ?_
          refine v_g H (o := 0) (v := I (y16_0_14)) rfl rfl rfl rfl rfl (congrArg (fun z : Int => I z) (((eF16 0 14).trans ey16_0_14) : F16 0 14 = y16_0_14)) ?_
          refine Ew_of (pcₚ := 92) (fun _ => x_istore_n rfl) ?_
          refine Ew_of (pcₚ := 93) (fun _ => x_aload_n rfl (rk_o (rfl) rfl rfl)) ?_
          refine v_g H (o := 0) (v := I (y16_0_15)) rfl rfl rfl rfl rfl (congrArg (fun z : Int => I z) (((eF16 0 15).trans ey16_0_15) : F16 0 15 = y16_0_15)) ?_
          refine Ew_of (pcₚ := 97) (fun _ => x_istore_n rfl) ?_
          refine Ew_of (pcₚ := 98) (fun _ => x_aload_n rfl (rk_o (rk_o (rfl) rfl rfl) rfl rfl)) ?_
          refine Ew_of (pcₚ := 99) (fun _ => x_iload_n rfl (rk_o (rk_o (rfl) rfl rfl) rfl rfl)) ?_
          refine Ew_of (pcₚ := 100) (fun _ => x_iconst rfl) ?_
          refine w_iadd rfl ?_
          refine v_inv H (o := 0) rfl rfl rfl rfl rfl rfl (by rfl) (C130 (D := puc 403177984 D) (N := puc 403177984 N) (HW_subc H oz_C2cls_14 oz_C2cls_17) ((mF16 0 0 rfl).trans (pf1)) ((mF16 1 0 rfl).trans (pf2)) ((mF16 0 8 rfl).trans (pf3)) (n2) (en2) (n3) (en3) (u0_6) (((mF16 0 6 rfl).trans (eu0_6))) (u0_10) (((mF16 0 10 rfl).trans (eu0_10))) (u0_11) (((mF16 0 11 rfl).trans (eu0_11))) (u0_12) (((mF16 0 12 rfl).trans (eu0_12))) (y16_0_14) (((eF16 0 14).trans ey16_0_14)) (y16_0_15) (((eF16 0 15).trans ey16_0_15)) (u0_16) ((((show F16 0 16 = F 0 16 from (eF16 0 16).trans (hS16 0 16 rfl))).trans (eu0_16))) (u0_17) ((((show F16 0 17 = F 0 17 from (eF16 0 17).trans (hS16 0 17 rfl))).trans (eu0_17))) (u0_18) ((((show F16 0 18 = F 0 18 from (eF16 0 18).trans (hS16 0 18 rfl))).trans (eu0_18))) (u1_1) (((mF16 1 1 rfl).trans (eu1_1))) (w2) ((funext (mA16 2 rfl)).trans (ew2)) (w3) ((funext (mA16 3 rfl)).trans (ew3)) (show inr ((a1 + 1)) from q_130 h4 h5) (show 0 ≤ (u1_1) ∧ (u1_1) ≤ (n2) ∧ (n2) ≤ 65536 ∧ (u1_1) ≤ 16384 from h1) (show (u0_12) ≤ (u1_1) from h2) (show 1 ≤ (u0_10) ∧ (u0_10) ≤ 8 from h3) (show 0 ≤ ((a1 + 1)) ∧ ((a1 + 1)) < (u0_6) from q_131 b23 h4 h8) (show (u0_6) ≤ (n3) ∧ (n3) ≤ 16384 from h5) (h6) (show (u0_16) = -1 ∨ (u0_17) = 0 ∨ (u0_10) ≤ (u0_17) ∧ (u0_16) + (u0_17) ≤ (u0_12) ∧ 1 ≤ (u0_18) ∧ (u0_18) ≤ (u0_16) from h7) (hah0) (fun σ24 F24ₚ A24ₚ Hₚ Oₚ hS24 hA24 y24_0_14 ey24_0_14 y24_0_15 ey24_0_15 pz24_0 pz24_1 => ⟨rfl, ?_⟩))
          refine v_backc (c := c) (s := s) H oz_C2cls_14 oz_C2cls_17 Hₚ Oₚ (fun F24 A24 H Oₚ eF24 eA24 => ?_)
          have O := OUT_trans O Oₚ
          -- Finder.longest
          have cF24 : SF oz_C2clsl_6 F F24 := SF_trans (cF16) (SF_gluc (ι := oz_C2clsl_7) oz_C2cls_17 hS24 eF24 (by decide +kernel)) (any_sub (lₚ := [(0, 14), (0, 15)]) (by decide +kernel))
          have mF24 := SFm_of cF24 oz_C2cls_16
          have cA24 : SA oz_C2clsl_4 A A24 := SA_trans (cA16) (SA_gluc (ι := oz_C2clsl_7) oz_C2cls_17 hA24 eA24 (by decide +kernel)) (any_subA (lₚ := []) (by decide +kernel))
          have mA24 := SAm_of cA24 oz_C2cls_7
          have r25 : (-2147483648 : Int) ≤ y24_0_14 ∧ y24_0_14 ≤ 2147483647 := rngE (show (-2147483648 : Int) ≤ F24 0 14 ∧ F24 0 14 ≤ 2147483647 from H.krg 0 14 (ltn len_V127_oz_C2cls rfl)) (show F24 0 14 = y24_0_14 from ((eF24 0 14).trans ey24_0_14))
          have r26 : (-2147483648 : Int) ≤ y24_0_15 ∧ y24_0_15 ≤ 2147483647 := rngE (show (-2147483648 : Int) ≤ F24 0 15 ∧ F24 0 15 ≤ 2147483647 from H.krg 0 15 (ltn len_V127_oz_C2cls rfl)) (show F24 0 15 = y24_0_15 from ((eF24 0 15).trans ey24_0_15))
          have hl1 : LGQ ((w2)) ((u0_12)) ((u0_11)) ((u0_10)) ((a1) + 1) ((y24_0_14)) ((y24_0_15)) := pz24_1
          refine Ew_of (pcₚ := 105) (fun _ => x_aload_n rfl (rk_o (rk_o (rfl) rfl rfl) rfl rfl)) ?_
          refine Ew_of (pcₚ := 106) (fun _ => x_iload_n rfl (rk_o (rk_o (rfl) rfl rfl) rfl rfl)) ?_
          refine Ew_of (pcₚ := 107) (fun _ => x_iconst rfl) ?_
          refine w_iadd rfl ?_
          refine v_p H (o := 0) (z := (a1 + 1)) (v := I ((a1 + 1))) rfl rfl rfl rfl rfl rfl rfl rfl (show (-2147483648 : Int) ≤ (a1 + 1) ∧ (a1 + 1) ≤ 2147483647 from q_132 h4 h5) (fun σ H Oₚ => ?_)
          have O := OUT_trans O Oₚ
          have cFu27 : SF oz_C2clsl_6 F (updF F24 0 16 ((a1 + 1))) := SF_upd (cF24) rfl
          have mFu27 := SFm_of cFu27 oz_C2cls_16
          refine Ew_of (pcₚ := 112) (fun _ => x_aload_n rfl (rk_o (rk_o (rfl) rfl rfl) rfl rfl)) ?_
          refine Ew_of (pcₚ := 113) (fun _ => x_aload_n rfl (rk_o (rk_o (rfl) rfl rfl) rfl rfl)) ?_
          refine v_g H (o := 0) (v := I (y24_0_14)) rfl rfl rfl rfl rfl (congrArg (fun z : Int => I z) (((eF24 0 14).trans ey24_0_14) : (updF F24 0 16 ((a1 + 1))) 0 14 = y24_0_14)) ?_
          refine v_p H (o := 0) (z := y24_0_14) (v := I (y24_0_14)) rfl rfl rfl rfl rfl rfl rfl rfl (show (-2147483648 : Int) ≤ y24_0_14 ∧ y24_0_14 ≤ 2147483647 from r25) (fun σ H Oₚ => ?_)
          have O := OUT_trans O Oₚ
          have cFu28 : SF oz_C2clsl_6 F (updF (updF F24 0 16 ((a1 + 1))) 0 17 (y24_0_14)) := SF_upd (cFu27) rfl
          have mFu28 := SFm_of cFu28 oz_C2cls_16
          refine Ew_of (pcₚ := 120) (fun _ => x_aload_n rfl (rk_o (rk_o (rfl) rfl rfl) rfl rfl)) ?_
          refine Ew_of (pcₚ := 121) (fun _ => x_aload_n rfl (rk_o (rk_o (rfl) rfl rfl) rfl rfl)) ?_
          refine v_g H (o := 0) (v := I (y24_0_15)) rfl rfl rfl rfl rfl (congrArg (fun z : Int => I z) (((eF24 0 15).trans ey24_0_15) : (updF (updF F24 0 16 ((a1 + 1))) 0 17 (y24_0_14)) 0 15 = y24_0_15)) ?_
          refine v_p H (o := 0) (z := y24_0_15) (v := I (y24_0_15)) rfl rfl rfl rfl rfl rfl rfl rfl (show (-2147483648 : Int) ≤ y24_0_15 ∧ y24_0_15 ≤ 2147483647 from r26) (fun σ H Oₚ => ?_)
          have O := OUT_trans O Oₚ
          have cFu29 : SF oz_C2clsl_6 F (updF (updF (updF F24 0 16 ((a1 + 1))) 0 17 (y24_0_14)) 0 18 (y24_0_15)) := SF_upd (cFu28) rfl
          have mFu29 := SFm_of cFu29 oz_C2cls_16
          refine Ew_of (pcₚ := 128) (fun _ => x_aload_n rfl (rk_o (rk_o (rfl) rfl rfl) rfl rfl)) ?_
          refine Ew_of (pcₚ := 129) (fun _ => x_iload_n rfl (rk_o (rk_s) rfl rfl)) ?_
          refine v_p H (o := 0) (z := y16_0_14) (v := I (y16_0_14)) rfl rfl rfl rfl rfl rfl rfl rfl (show (-2147483648 : Int) ≤ y16_0_14 ∧ y16_0_14 ≤ 2147483647 from r17) (fun σ H Oₚ => ?_)
          have O := OUT_trans O Oₚ
          have cFu30 : SF oz_C2clsl_6 F (updF (updF (updF (updF F24 0 16 ((a1 + 1))) 0 17 (y24_0_14)) 0 18 (y24_0_15)) 0 14 (y16_0_14)) := SF_upd (cFu29) rfl
          have mFu30 := SFm_of cFu30 oz_C2cls_16
          refine Ew_of (pcₚ := 133) (fun _ => x_aload_n rfl (rk_o (rk_o (rfl) rfl rfl) rfl rfl)) ?_
          refine Ew_of (pcₚ := 134) (fun _ => x_iload_n rfl rk_s) ?_
          refine v_p H (o := 0) (z := y16_0_15) (v := I (y16_0_15)) rfl rfl rfl rfl rfl rfl rfl rfl (show (-2147483648 : Int) ≤ y16_0_15 ∧ y16_0_15 ≤ 2147483647 from r18) (fun σ H Oₚ => ?_)
          have O := OUT_trans O Oₚ
          have cFu31 : SF oz_C2clsl_6 F (updF (updF (updF (updF (updF F24 0 16 ((a1 + 1))) 0 17 (y24_0_14)) 0 18 (y24_0_15)) 0 14 (y16_0_14)) 0 15 (y16_0_15)) := SF_upd (cFu30) rfl
          have mFu31 := SFm_of cFu31 oz_C2cls_16
          refine Ew_of (pcₚ := 138) (fun _ => x_aload_n rfl (rk_o (rk_o (rfl) rfl rfl) rfl rfl)) ?_
          refine v_g H (o := 0) (v := I (y24_0_14)) rfl rfl rfl rfl rfl (congrArg (fun z : Int => I z) (rfl : (updF (updF (updF (updF (updF F24 0 16 ((a1 + 1))) 0 17 (y24_0_14)) 0 18 (y24_0_15)) 0 14 (y16_0_14)) 0 15 (y16_0_15)) 0 17 = y24_0_14)) ?_
          refine Ew_of (pcₚ := 142) (fun _ => x_iload_n rfl (rk_o (rk_s) rfl rfl)) ?_
          refine w_icmpgt (t := 149) rfl rfl (show inr (y24_0_14) from q_18 r25) (show inr (y16_0_14) from q_18 r17) (fun b32 => ?_) (fun b32 => ?_)
          · refine Ew_of (pcₚ := 150) (fun _ => x_iconst rfl) ?_
            have : IMP ((0 : Int) ≤ ((a1 + 1))) (LGQ ((w2)) ((u0_12)) ((u0_11)) ((u0_10)) (((a1 + 1))) ((y24_0_14)) ((y24_0_15))) := fun _ => hl1
            have : MT ((w2)) ((u0_12)) ((u0_11)) ((u0_10)) ((u0_9)) ((u0_13)) ((a1)) ((0) * (y16_0_14)) ((y16_0_15)) := by first | exact MT_3y (by omega) hlg (by omega) (by omega) hl1 (by omega) | exact MT_3n (by omega) hlg (by omega) (by omega) hl1 (by omega)
            exact w_ireturn rfl (k (0) _ _ _ H O (cFu31) (cA24) (y16_0_14) (rfl) (y16_0_15) (rfl) ((a1 + 1)) (rfl) (y24_0_14) (rfl) (y24_0_15) (rfl) (show (0) = 0 ∨ (0) = 1 by first | exact q_45 | omega) (show (0) = 1 → (u0_10) ≤ (y16_0_14) ∧ a1 + (y16_0_14) ≤ (u0_12) ∧ 1 ≤ (y16_0_15) ∧ (y16_0_15) ≤ a1 by first | exact q_134 h0 h3 h4 r17 r18 r5 | omega) (show ((a1 + 1)) = -1 ∨ (y24_0_14) = 0 ∨ (u0_10) ≤ (y24_0_14) ∧ ((a1 + 1)) + (y24_0_14) ≤ (u0_12) ∧ 1 ≤ (y24_0_15) ∧ (y24_0_15) ≤ ((a1 + 1)) by first | exact q_133 pz24_0 | omega) (show MT ((w2)) ((u0_12)) ((u0_11)) ((u0_10)) ((u0_9)) ((u0_13)) (a1) ((0) * (y16_0_14)) ((y16_0_15)) by assumption) (show IMP ((0 : Int) ≤ ((a1 + 1))) (LGQ ((w2)) ((u0_12)) ((u0_11)) ((u0_10)) (((a1 + 1))) ((y24_0_14)) ((y24_0_15))) by assumption))
          · refine Ew_of (pcₚ := 146) (fun _ => x_iconst rfl) ?_
            refine Ew_of (pcₚ := 150) (fun _ => x_goto rfl rfl) ?_
            have : IMP ((0 : Int) ≤ ((a1 + 1))) (LGQ ((w2)) ((u0_12)) ((u0_11)) ((u0_10)) (((a1 + 1))) ((y24_0_14)) ((y24_0_15))) := fun _ => hl1
            have : MT ((w2)) ((u0_12)) ((u0_11)) ((u0_10)) ((u0_9)) ((u0_13)) ((a1)) ((1) * (y16_0_14)) ((y16_0_15)) := by first | exact MT_3y (by omega) hlg (by omega) (by omega) hl1 (by omega) | exact MT_3n (by omega) hlg (by omega) (by omega) hl1 (by omega)
            exact w_ireturn rfl (k (1) _ _ _ H O (cFu31) (cA24) (y16_0_14) (rfl) (y16_0_15) (rfl) ((a1 + 1)) (rfl) (y24_0_14) (rfl) (y24_0_15) (rfl) (show (1) = 0 ∨ (1) = 1 by first | exact q_49 | omega) (show (1) = 1 → (u0_10) ≤ (y16_0_14) ∧ a1 + (y16_0_14) ≤ (u0_12) ∧ 1 ≤ (y16_0_15) ∧ (y16_0_15) ≤ a1 by omega) (show ((a1 + 1)) = -1 ∨ (y24_0_14) = 0 ∨ (u0_10) ≤ (y24_0_14) ∧ ((a1 + 1)) + (y24_0_14) ≤ (u0_12) ∧ 1 ≤ (y24_0_15) ∧ (y24_0_15) ≤ ((a1 + 1)) by first | exact q_133 pz24_0 | omega) (show MT ((w2)) ((u0_12)) ((u0_11)) ((u0_10)) ((u0_9)) ((u0_13)) (a1) ((1) * (y16_0_14)) ((y16_0_15)) by assumption) (show IMP ((0 : Int) ≤ ((a1 + 1))) (LGQ ((w2)) ((u0_12)) ((u0_11)) ((u0_10)) (((a1 + 1))) ((y24_0_14)) ((y24_0_15))) by assumption))
        · refine Ew_of (pcₚ := 75) (fun _ => x_aload_n rfl rfl) ?_
          refine v_g H (o := 0) (v := I (y16_0_14)) rfl rfl rfl rfl rfl (congrArg (fun z : Int => I z) (((eF16 0 14).trans ey16_0_14) : F16 0 14 = y16_0_14)) ?_
          refine w_ifle (t := 85) rfl rfl (show inr (y16_0_14) from q_18 r17) (fun b33 => ?_) (fun b33 => ?_)
          · refine Ew_of (pcₚ := 86) (fun _ => x_iconst rfl) ?_
            have : MT ((w2)) ((u0_12)) ((u0_11)) ((u0_10)) ((u0_9)) ((u0_13)) ((a1)) ((0) * (y16_0_14)) ((y16_0_15)) := by rcases (show (u0_9) = 2 ∨ 3 ≤ (u0_9) by omega) with w | w <;> first | exact MT_2 w hlg (by omega) | exact MT_3z w hlg (by omega) | exact MT_3e w hlg (by omega) (by omega)
            exact w_ireturn rfl (k (0) _ _ _ H O (cF16) (cA16) (y16_0_14) (((eF16 0 14).trans ey16_0_14)) (y16_0_15) (((eF16 0 15).trans ey16_0_15)) (u0_16) ((((show F16 0 16 = F 0 16 from (eF16 0 16).trans (hS16 0 16 rfl))).trans (eu0_16))) (u0_17) ((((show F16 0 17 = F 0 17 from (eF16 0 17).trans (hS16 0 17 rfl))).trans (eu0_17))) (u0_18) ((((show F16 0 18 = F 0 18 from (eF16 0 18).trans (hS16 0 18 rfl))).trans (eu0_18))) (show (0) = 0 ∨ (0) = 1 by first | exact q_45 | omega) (show (0) = 1 → (u0_10) ≤ (y16_0_14) ∧ a1 + (y16_0_14) ≤ (u0_12) ∧ 1 ≤ (y16_0_15) ∧ (y16_0_15) ≤ a1 by first | exact q_128 b33 h0 h3 h4 r17 r18 r5 | omega) (show (u0_16) = -1 ∨ (u0_17) = 0 ∨ (u0_10) ≤ (u0_17) ∧ (u0_16) + (u0_17) ≤ (u0_12) ∧ 1 ≤ (u0_18) ∧ (u0_18) ≤ (u0_16) from h7) (show MT ((w2)) ((u0_12)) ((u0_11)) ((u0_10)) ((u0_9)) ((u0_13)) (a1) ((0) * (y16_0_14)) ((y16_0_15)) by assumption) (hah0))
          · refine Ew_of (pcₚ := 82) (fun _ => x_iconst rfl) ?_
            refine Ew_of (pcₚ := 86) (fun _ => x_goto rfl rfl) ?_
            have : MT ((w2)) ((u0_12)) ((u0_11)) ((u0_10)) ((u0_9)) ((u0_13)) ((a1)) ((1) * (y16_0_14)) ((y16_0_15)) := by rcases (show (u0_9) = 2 ∨ 3 ≤ (u0_9) by omega) with w | w <;> first | exact MT_2 w hlg (by omega) | exact MT_3z w hlg (by omega) | exact MT_3e w hlg (by omega) (by omega)
            exact w_ireturn rfl (k (1) _ _ _ H O (cF16) (cA16) (y16_0_14) (((eF16 0 14).trans ey16_0_14)) (y16_0_15) (((eF16 0 15).trans ey16_0_15)) (u0_16) ((((show F16 0 16 = F 0 16 from (eF16 0 16).trans (hS16 0 16 rfl))).trans (eu0_16))) (u0_17) ((((show F16 0 17 = F 0 17 from (eF16 0 17).trans (hS16 0 17 rfl))).trans (eu0_17))) (u0_18) ((((show F16 0 18 = F 0 18 from (eF16 0 18).trans (hS16 0 18 rfl))).trans (eu0_18))) (show (1) = 0 ∨ (1) = 1 by first | exact q_49 | omega) (show (1) = 1 → (u0_10) ≤ (y16_0_14) ∧ a1 + (y16_0_14) ≤ (u0_12) ∧ 1 ≤ (y16_0_15) ∧ (y16_0_15) ≤ a1 by first | exact q_129 b33 h0 h3 h4 pz16_0 r18 r5 | omega) (show (u0_16) = -1 ∨ (u0_17) = 0 ∨ (u0_10) ≤ (u0_17) ∧ (u0_16) + (u0_17) ≤ (u0_12) ∧ 1 ≤ (u0_18) ∧ (u0_18) ≤ (u0_16) from h7) (show MT ((w2)) ((u0_12)) ((u0_11)) ((u0_10)) ((u0_9)) ((u0_13)) (a1) ((1) * (y16_0_14)) ((y16_0_15)) by assumption) (hah0))
  · refine Ew_of (pcₚ := 9) (fun _ => x_aload_n rfl rfl) ?_
    refine v_g H (o := 0) (v := I (u0_9)) rfl rfl rfl rfl rfl (congrArg (fun z : Int => I z) ((eu0_9) : F 0 9 = u0_9)) ?_
    refine Ew_of (pcₚ := 13) (fun _ => x_iconst rfl) ?_
    refine w_icmpne (t := 26) rfl rfl (show inr (u0_9) from q_136 b15 r2) (show inr (1) from q_135) (fun b34 => ?_) (fun b34 => ?_)
    · refine Ew_of (pcₚ := 27) (fun _ => x_aload_n rfl rfl) ?_
      refine Ew_of (pcₚ := 28) (fun _ => x_iload_n rfl rfl) ?_
      refine Ew_of (pcₚ := 29) (fun _ => x_aload_n rfl rfl) ?_
      refine v_g H (o := 0) (v := I (u0_10)) rfl rfl rfl rfl rfl (congrArg (fun z : Int => I z) ((eu0_10) : F 0 10 = u0_10)) ?_
      refine v_inv H (o := 0) rfl rfl rfl rfl rfl rfl (by rfl) (C129 (D := puc 403177984 D) (N := puc 403177984 N) (HW_subc H oz_C2cls_15 oz_C2cls_17) (pf1) (pf2) (pf3) (n2) (en2) (n3) (en3) (u0_6) ((eu0_6)) (u0_10) ((eu0_10)) (u0_11) ((eu0_11)) (u0_12) ((eu0_12)) (u0_14) ((eu0_14)) (u0_15) ((eu0_15)) (u1_1) ((eu1_1)) (w2) (ew2) (w3) (ew3) (show inr (a1) from h0) (show inr (u0_10) from q_59 h3) (show 0 ≤ (u1_1) ∧ (u1_1) ≤ (n2) ∧ (n2) ≤ 65536 ∧ (u1_1) ≤ 16384 from h1) (show (u0_12) ≤ (u1_1) from h2) (show 1 ≤ (u0_10) ∧ (u0_10) ≤ 8 from h3) (show 0 ≤ (a1) ∧ (a1) < (u0_6) from h4) (show (u0_6) ≤ (n3) ∧ (n3) ≤ 16384 from h5) (h6) (show 1 ≤ (u0_10) ∧ (u0_10) ≤ (u0_10) from q_137 h3) (fun z35 σ35 F35ₚ A35ₚ Hₚ Oₚ hS35 hA35 y35_0_14 ey35_0_14 y35_0_15 ey35_0_15 pz35_0 pz35_1 pz35_2 => ⟨rretB rfl pz35_0, ?_⟩))
      refine v_backc (c := c) (s := s) H oz_C2cls_15 oz_C2cls_17 Hₚ Oₚ (fun F35 A35 H Oₚ eF35 eA35 => ?_)
      have O := OUT_trans O Oₚ
      -- Finder.nearest
      have cF35 : SF oz_C2clsl_6 F F35 := SF_trans (SF_refl) (SF_gluc (ι := oz_C2clsl_7) oz_C2cls_17 hS35 eF35 (by decide +kernel)) (any_sub (lₚ := [(0, 14), (0, 15)]) (by decide +kernel))
      have mF35 := SFm_of cF35 oz_C2cls_16
      have cA35 : SA oz_C2clsl_4 A A35 := SA_trans (SA_refl) (SA_gluc (ι := oz_C2clsl_7) oz_C2cls_17 hA35 eA35 (by decide +kernel)) (any_subA (lₚ := []) (by decide +kernel))
      have mA35 := SAm_of cA35 oz_C2cls_7
      have r36 : (-2147483648 : Int) ≤ y35_0_14 ∧ y35_0_14 ≤ 2147483647 := rngE (show (-2147483648 : Int) ≤ F35 0 14 ∧ F35 0 14 ≤ 2147483647 from H.krg 0 14 (ltn len_V127_oz_C2cls rfl)) (show F35 0 14 = y35_0_14 from ((eF35 0 14).trans ey35_0_14))
      have r37 : (-2147483648 : Int) ≤ y35_0_15 ∧ y35_0_15 ≤ 2147483647 := rngE (show (-2147483648 : Int) ≤ F35 0 15 ∧ F35 0 15 ≤ 2147483647 from H.krg 0 15 (ltn len_V127_oz_C2cls rfl)) (show F35 0 15 = y35_0_15 from ((eF35 0 15).trans ey35_0_15))
      have hnl : ∀ r, (z35) = r → NRQ ((w2)) ((u0_12)) ((u0_11)) ((u0_10)) ((a1)) (r * (y35_0_14)) ((y35_0_15)) := fun r e => e ▸ pz35_2
      refine w_ifeq (t := 42) rfl rfl (show inr (z35) from q_138 pz35_0) (fun b38 => ?_) (fun b38 => ?_)
      · refine Ew_of (pcₚ := 43) (fun _ => x_iconst rfl) ?_
        have : MT ((w2)) ((u0_12)) ((u0_11)) ((u0_10)) ((u0_9)) ((u0_13)) ((a1)) ((0) * (y35_0_14)) ((y35_0_15)) := by first | exact MT_8y (by omega) (hn8 1 (by omega)) rfl (by omega) | exact MT_8n (by omega) (hn8 0 (by omega)) rfl (hnl ((0)) (by omega)) | exact MT_n (by omega) (hnl ((0)) (by omega))
        exact w_ireturn rfl (k (0) _ _ _ H O (cF35) (cA35) (y35_0_14) (((eF35 0 14).trans ey35_0_14)) (y35_0_15) (((eF35 0 15).trans ey35_0_15)) (u0_16) ((((show F35 0 16 = F 0 16 from (eF35 0 16).trans (hS35 0 16 rfl))).trans (eu0_16))) (u0_17) ((((show F35 0 17 = F 0 17 from (eF35 0 17).trans (hS35 0 17 rfl))).trans (eu0_17))) (u0_18) ((((show F35 0 18 = F 0 18 from (eF35 0 18).trans (hS35 0 18 rfl))).trans (eu0_18))) (show (0) = 0 ∨ (0) = 1 by first | exact q_45 | omega) (show (0) = 1 → (u0_10) ≤ (y35_0_14) ∧ a1 + (y35_0_14) ≤ (u0_12) ∧ 1 ≤ (y35_0_15) ∧ (y35_0_15) ≤ a1 by first | exact q_134 h0 h3 h4 r36 r37 r5 | omega) (show (u0_16) = -1 ∨ (u0_17) = 0 ∨ (u0_10) ≤ (u0_17) ∧ (u0_16) + (u0_17) ≤ (u0_12) ∧ 1 ≤ (u0_18) ∧ (u0_18) ≤ (u0_16) from h7) (show MT ((w2)) ((u0_12)) ((u0_11)) ((u0_10)) ((u0_9)) ((u0_13)) (a1) ((0) * (y35_0_14)) ((y35_0_15)) by assumption) (hah0))
      · refine Ew_of (pcₚ := 39) (fun _ => x_iconst rfl) ?_
        refine Ew_of (pcₚ := 43) (fun _ => x_goto rfl rfl) ?_
        have : MT ((w2)) ((u0_12)) ((u0_11)) ((u0_10)) ((u0_9)) ((u0_13)) ((a1)) ((1) * (y35_0_14)) ((y35_0_15)) := by first | exact MT_8y (by omega) (hn8 1 (by omega)) rfl (by omega) | exact MT_8n (by omega) (hn8 0 (by omega)) rfl (hnl ((1)) (by omega)) | exact MT_n (by omega) (hnl ((1)) (by omega))
        exact w_ireturn rfl (k (1) _ _ _ H O (cF35) (cA35) (y35_0_14) (((eF35 0 14).trans ey35_0_14)) (y35_0_15) (((eF35 0 15).trans ey35_0_15)) (u0_16) ((((show F35 0 16 = F 0 16 from (eF35 0 16).trans (hS35 0 16 rfl))).trans (eu0_16))) (u0_17) ((((show F35 0 17 = F 0 17 from (eF35 0 17).trans (hS35 0 17 rfl))).trans (eu0_17))) (u0_18) ((((show F35 0 18 = F 0 18 from (eF35 0 18).trans (hS35 0 18 rfl))).trans (eu0_18))) (show (1) = 0 ∨ (1) = 1 by first | exact q_49 | omega) (show (1) = 1 → (u0_10) ≤ (y35_0_14) ∧ a1 + (y35_0_14) ≤ (u0_12) ∧ 1 ≤ (y35_0_15) ∧ (y35_0_15) ≤ a1 by first | exact q_139 b38 pz35_0 pz35_1 | omega) (show (u0_16) = -1 ∨ (u0_17) = 0 ∨ (u0_10) ≤ (u0_17) ∧ (u0_16) + (u0_17) ≤ (u0_12) ∧ 1 ≤ (u0_18) ∧ (u0_18) ≤ (u0_16) from h7) (show MT ((w2)) ((u0_12)) ((u0_11)) ((u0_10)) ((u0_9)) ((u0_13)) (a1) ((1) * (y35_0_14)) ((y35_0_15)) by assumption) (hah0))
    · refine Ew_of (pcₚ := 17) (fun _ => x_aload_n rfl rfl) ?_
      refine Ew_of (pcₚ := 18) (fun _ => x_iload_n rfl rfl) ?_
      refine Ew_of (pcₚ := 20) (fun _ => x_bipush (z := 8) rfl (by decide)) ?_
      refine v_inv H (o := 0) rfl rfl rfl rfl rfl rfl (by rfl) (C129 (D := puc 403177984 D) (N := puc 403177984 N) (HW_subc H oz_C2cls_15 oz_C2cls_17) (pf1) (pf2) (pf3) (n2) (en2) (n3) (en3) (u0_6) ((eu0_6)) (u0_10) ((eu0_10)) (u0_11) ((eu0_11)) (u0_12) ((eu0_12)) (u0_14) ((eu0_14)) (u0_15) ((eu0_15)) (u1_1) ((eu1_1)) (w2) (ew2) (w3) (ew3) (show inr (a1) from h0) (show inr (8) from q_141) (show 0 ≤ (u1_1) ∧ (u1_1) ≤ (n2) ∧ (n2) ≤ 65536 ∧ (u1_1) ≤ 16384 from h1) (show (u0_12) ≤ (u1_1) from h2) (show 1 ≤ (u0_10) ∧ (u0_10) ≤ 8 from h3) (show 0 ≤ (a1) ∧ (a1) < (u0_6) from h4) (show (u0_6) ≤ (n3) ∧ (n3) ≤ 16384 from h5) (h6) (show 1 ≤ (8) ∧ (u0_10) ≤ (8) from q_140 h3) (fun z39 σ39 F39ₚ A39ₚ Hₚ Oₚ hS39 hA39 y39_0_14 ey39_0_14 y39_0_15 ey39_0_15 pz39_0 pz39_1 pz39_2 => ⟨rretB rfl pz39_0, ?_⟩))
      refine v_backc (c := c) (s := s) H oz_C2cls_15 oz_C2cls_17 Hₚ Oₚ (fun F39 A39 H Oₚ eF39 eA39 => ?_)
      have O := OUT_trans O Oₚ
      -- Finder.nearest
      have cF39 : SF oz_C2clsl_6 F F39 := SF_trans (SF_refl) (SF_gluc (ι := oz_C2clsl_7) oz_C2cls_17 hS39 eF39 (by decide +kernel)) (any_sub (lₚ := [(0, 14), (0, 15)]) (by decide +kernel))
      have mF39 := SFm_of cF39 oz_C2cls_16
      have cA39 : SA oz_C2clsl_4 A A39 := SA_trans (SA_refl) (SA_gluc (ι := oz_C2clsl_7) oz_C2cls_17 hA39 eA39 (by decide +kernel)) (any_subA (lₚ := []) (by decide +kernel))
      have mA39 := SAm_of cA39 oz_C2cls_7
      have r40 : (-2147483648 : Int) ≤ y39_0_14 ∧ y39_0_14 ≤ 2147483647 := rngE (show (-2147483648 : Int) ≤ F39 0 14 ∧ F39 0 14 ≤ 2147483647 from H.krg 0 14 (ltn len_V127_oz_C2cls rfl)) (show F39 0 14 = y39_0_14 from ((eF39 0 14).trans ey39_0_14))
      have r41 : (-2147483648 : Int) ≤ y39_0_15 ∧ y39_0_15 ≤ 2147483647 := rngE (show (-2147483648 : Int) ≤ F39 0 15 ∧ F39 0 15 ≤ 2147483647 from H.krg 0 15 (ltn len_V127_oz_C2cls rfl)) (show F39 0 15 = y39_0_15 from ((eF39 0 15).trans ey39_0_15))
      have hn8 : ∀ r, (z39) = r → NRQ ((w2)) ((u0_12)) ((u0_11)) (8) ((a1)) (r * (y39_0_14)) ((y39_0_15)) := fun r e => e ▸ pz39_2
      refine w_ifne (t := 38) rfl rfl (show inr (z39) from q_138 pz39_0) (fun b42 => ?_) (fun b42 => ?_)
      · refine Ew_of (pcₚ := 39) (fun _ => x_iconst rfl) ?_
        refine Ew_of (pcₚ := 43) (fun _ => x_goto rfl rfl) ?_
        have : MT ((w2)) ((u0_12)) ((u0_11)) ((u0_10)) ((u0_9)) ((u0_13)) ((a1)) ((1) * (y39_0_14)) ((y39_0_15)) := by first | exact MT_8y (by omega) (hn8 1 (by omega)) rfl (by omega) | exact MT_8n (by omega) (hn8 0 (by omega)) rfl (hnl ((1)) (by omega)) | exact MT_n (by omega) (hnl ((1)) (by omega))
        exact w_ireturn rfl (k (1) _ _ _ H O (cF39) (cA39) (y39_0_14) (((eF39 0 14).trans ey39_0_14)) (y39_0_15) (((eF39 0 15).trans ey39_0_15)) (u0_16) ((((show F39 0 16 = F 0 16 from (eF39 0 16).trans (hS39 0 16 rfl))).trans (eu0_16))) (u0_17) ((((show F39 0 17 = F 0 17 from (eF39 0 17).trans (hS39 0 17 rfl))).trans (eu0_17))) (u0_18) ((((show F39 0 18 = F 0 18 from (eF39 0 18).trans (hS39 0 18 rfl))).trans (eu0_18))) (show (1) = 0 ∨ (1) = 1 by first | exact q_49 | omega) (show (1) = 1 → (u0_10) ≤ (y39_0_14) ∧ a1 + (y39_0_14) ≤ (u0_12) ∧ 1 ≤ (y39_0_15) ∧ (y39_0_15) ≤ a1 by first | exact q_142 b42 h3 pz39_0 pz39_1 | omega) (show (u0_16) = -1 ∨ (u0_17) = 0 ∨ (u0_10) ≤ (u0_17) ∧ (u0_16) + (u0_17) ≤ (u0_12) ∧ 1 ≤ (u0_18) ∧ (u0_18) ≤ (u0_16) from h7) (show MT ((w2)) ((u0_12)) ((u0_11)) ((u0_10)) ((u0_9)) ((u0_13)) (a1) ((1) * (y39_0_14)) ((y39_0_15)) by assumption) (hah0))
      · refine Ew_of (pcₚ := 27) (fun _ => x_aload_n rfl rfl) ?_
        refine Ew_of (pcₚ := 28) (fun _ => x_iload_n rfl rfl) ?_
        refine Ew_of (pcₚ := 29) (fun _ => x_aload_n rfl rfl) ?_
        refine v_g H (o := 0) (v := I (u0_10)) rfl rfl rfl rfl rfl (congrArg (fun z : Int => I z) (((mF39 0 10 rfl).trans (eu0_10)) : F39 0 10 = u0_10)) ?_
        refine v_inv H (o := 0) rfl rfl rfl rfl rfl rfl (by rfl) (C129 (D := puc 403177984 D) (N := puc 403177984 N) (HW_subc H oz_C2cls_15 oz_C2cls_17) ((mF39 0 0 rfl).trans (pf1)) ((mF39 1 0 rfl).trans (pf2)) ((mF39 0 8 rfl).trans (pf3)) (n2) (en2) (n3) (en3) (u0_6) (((mF39 0 6 rfl).trans (eu0_6))) (u0_10) (((mF39 0 10 rfl).trans (eu0_10))) (u0_11) (((mF39 0 11 rfl).trans (eu0_11))) (u0_12) (((mF39 0 12 rfl).trans (eu0_12))) (y39_0_14) (((eF39 0 14).trans ey39_0_14)) (y39_0_15) (((eF39 0 15).trans ey39_0_15)) (u1_1) (((mF39 1 1 rfl).trans (eu1_1))) (w2) ((funext (mA39 2 rfl)).trans (ew2)) (w3) ((funext (mA39 3 rfl)).trans (ew3)) (show inr (a1) from h0) (show inr (u0_10) from q_59 h3) (show 0 ≤ (u1_1) ∧ (u1_1) ≤ (n2) ∧ (n2) ≤ 65536 ∧ (u1_1) ≤ 16384 from h1) (show (u0_12) ≤ (u1_1) from h2) (show 1 ≤ (u0_10) ∧ (u0_10) ≤ 8 from h3) (show 0 ≤ (a1) ∧ (a1) < (u0_6) from h4) (show (u0_6) ≤ (n3) ∧ (n3) ≤ 16384 from h5) (h6) (show 1 ≤ (u0_10) ∧ (u0_10) ≤ (u0_10) from q_137 h3) (fun z43 σ43 F43ₚ A43ₚ Hₚ Oₚ hS43 hA43 y43_0_14 ey43_0_14 y43_0_15 ey43_0_15 pz43_0 pz43_1 pz43_2 => ⟨rretB rfl pz43_0, ?_⟩))
        refine v_backc (c := c) (s := s) H oz_C2cls_15 oz_C2cls_17 Hₚ Oₚ (fun F43 A43 H Oₚ eF43 eA43 => ?_)
        have O := OUT_trans O Oₚ
        -- Finder.nearest
        have cF43 : SF oz_C2clsl_6 F F43 := SF_trans (cF39) (SF_gluc (ι := oz_C2clsl_7) oz_C2cls_17 hS43 eF43 (by decide +kernel)) (any_sub (lₚ := [(0, 14), (0, 15)]) (by decide +kernel))
        have mF43 := SFm_of cF43 oz_C2cls_16
        have cA43 : SA oz_C2clsl_4 A A43 := SA_trans (cA39) (SA_gluc (ι := oz_C2clsl_7) oz_C2cls_17 hA43 eA43 (by decide +kernel)) (any_subA (lₚ := []) (by decide +kernel))
        have mA43 := SAm_of cA43 oz_C2cls_7
        have r44 : (-2147483648 : Int) ≤ y43_0_14 ∧ y43_0_14 ≤ 2147483647 := rngE (show (-2147483648 : Int) ≤ F43 0 14 ∧ F43 0 14 ≤ 2147483647 from H.krg 0 14 (ltn len_V127_oz_C2cls rfl)) (show F43 0 14 = y43_0_14 from ((eF43 0 14).trans ey43_0_14))
        have r45 : (-2147483648 : Int) ≤ y43_0_15 ∧ y43_0_15 ≤ 2147483647 := rngE (show (-2147483648 : Int) ≤ F43 0 15 ∧ F43 0 15 ≤ 2147483647 from H.krg 0 15 (ltn len_V127_oz_C2cls rfl)) (show F43 0 15 = y43_0_15 from ((eF43 0 15).trans ey43_0_15))
        have hnl : ∀ r, (z43) = r → NRQ ((w2)) ((u0_12)) ((u0_11)) ((u0_10)) ((a1)) (r * (y43_0_14)) ((y43_0_15)) := fun r e => e ▸ pz43_2
        refine w_ifeq (t := 42) rfl rfl (show inr (z43) from q_138 pz43_0) (fun b46 => ?_) (fun b46 => ?_)
        · refine Ew_of (pcₚ := 43) (fun _ => x_iconst rfl) ?_
          have : MT ((w2)) ((u0_12)) ((u0_11)) ((u0_10)) ((u0_9)) ((u0_13)) ((a1)) ((0) * (y43_0_14)) ((y43_0_15)) := by first | exact MT_8y (by omega) (hn8 1 (by omega)) rfl (by omega) | exact MT_8n (by omega) (hn8 0 (by omega)) rfl (hnl ((0)) (by omega)) | exact MT_n (by omega) (hnl ((0)) (by omega))
          exact w_ireturn rfl (k (0) _ _ _ H O (cF43) (cA43) (y43_0_14) (((eF43 0 14).trans ey43_0_14)) (y43_0_15) (((eF43 0 15).trans ey43_0_15)) (u0_16) (((((show F43 0 16 = F39 0 16 from (eF43 0 16).trans (hS43 0 16 rfl))).trans ((show F39 0 16 = F 0 16 from (eF39 0 16).trans (hS39 0 16 rfl)))).trans (eu0_16))) (u0_17) (((((show F43 0 17 = F39 0 17 from (eF43 0 17).trans (hS43 0 17 rfl))).trans ((show F39 0 17 = F 0 17 from (eF39 0 17).trans (hS39 0 17 rfl)))).trans (eu0_17))) (u0_18) (((((show F43 0 18 = F39 0 18 from (eF43 0 18).trans (hS43 0 18 rfl))).trans ((show F39 0 18 = F 0 18 from (eF39 0 18).trans (hS39 0 18 rfl)))).trans (eu0_18))) (show (0) = 0 ∨ (0) = 1 by first | exact q_45 | omega) (show (0) = 1 → (u0_10) ≤ (y43_0_14) ∧ a1 + (y43_0_14) ≤ (u0_12) ∧ 1 ≤ (y43_0_15) ∧ (y43_0_15) ≤ a1 by first | exact q_134 h0 h3 h4 r44 r45 r5 | omega) (show (u0_16) = -1 ∨ (u0_17) = 0 ∨ (u0_10) ≤ (u0_17) ∧ (u0_16) + (u0_17) ≤ (u0_12) ∧ 1 ≤ (u0_18) ∧ (u0_18) ≤ (u0_16) from h7) (show MT ((w2)) ((u0_12)) ((u0_11)) ((u0_10)) ((u0_9)) ((u0_13)) (a1) ((0) * (y43_0_14)) ((y43_0_15)) by assumption) (hah0))
        · refine Ew_of (pcₚ := 39) (fun _ => x_iconst rfl) ?_
          refine Ew_of (pcₚ := 43) (fun _ => x_goto rfl rfl) ?_
          have : MT ((w2)) ((u0_12)) ((u0_11)) ((u0_10)) ((u0_9)) ((u0_13)) ((a1)) ((1) * (y43_0_14)) ((y43_0_15)) := by first | exact MT_8y (by omega) (hn8 1 (by omega)) rfl (by omega) | exact MT_8n (by omega) (hn8 0 (by omega)) rfl (hnl ((1)) (by omega)) | exact MT_n (by omega) (hnl ((1)) (by omega))
          exact w_ireturn rfl (k (1) _ _ _ H O (cF43) (cA43) (y43_0_14) (((eF43 0 14).trans ey43_0_14)) (y43_0_15) (((eF43 0 15).trans ey43_0_15)) (u0_16) (((((show F43 0 16 = F39 0 16 from (eF43 0 16).trans (hS43 0 16 rfl))).trans ((show F39 0 16 = F 0 16 from (eF39 0 16).trans (hS39 0 16 rfl)))).trans (eu0_16))) (u0_17) (((((show F43 0 17 = F39 0 17 from (eF43 0 17).trans (hS43 0 17 rfl))).trans ((show F39 0 17 = F 0 17 from (eF39 0 17).trans (hS39 0 17 rfl)))).trans (eu0_17))) (u0_18) (((((show F43 0 18 = F39 0 18 from (eF43 0 18).trans (hS43 0 18 rfl))).trans ((show F39 0 18 = F 0 18 from (eF39 0 18).trans (hS39 0 18 rfl)))).trans (eu0_18))) (show (1) = 0 ∨ (1) = 1 by first | exact q_49 | omega) (show (1) = 1 → (u0_10) ≤ (y43_0_14) ∧ a1 + (y43_0_14) ≤ (u0_12) ∧ 1 ≤ (y43_0_15) ∧ (y43_0_15) ≤ a1 by first | exact q_139 b46 pz43_0 pz43_1 | omega) (show (u0_16) = -1 ∨ (u0_17) = 0 ∨ (u0_10) ≤ (u0_17) ∧ (u0_16) + (u0_17) ≤ (u0_12) ∧ 1 ≤ (u0_18) ∧ (u0_18) ≤ (u0_16) from h7) (show MT ((w2)) ((u0_12)) ((u0_11)) ((u0_10)) ((u0_9)) ((u0_13)) (a1) ((1) * (y43_0_14)) ((y43_0_15)) by assumption) (hah0))


end
section
/-! C3.cls -/
abbrev V126 : vV := [(0, 5, [(4, 0), (4, 0), (4, 0), (4, 0), (0, 0), (0, 0), (0, 0), (4, 0), (4, 0), (0, 0), (0, 0), (0, 0), (0, 0), (0, 0), (0, 0), (0, 0), (0, 0), (0, 0), (0, 0)]), (1, 1, []), (1, 1, []), (1, 1, [])]
theorem len_V126_oz_C3cls : (V126).length = 4 := by decide +kernel
def oz_C3clsl_0 : List (Nat × Nat) := [(0, 1), (0, 2), (0, 3), (0, 4)]
theorem oz_C3cls_1 : (oz_C3clsl_0).all (fun p => !tbz 30 (Nat.add (Nat.mul 32 p.1) p.2)) = true := by decide +kernel
def oz_C3clsl_1 : List Nat := [1, 2, 3]
theorem oz_C3cls_2 : (oz_C3clsl_1).all (fun p => !tbz 14 p) = true := by decide +kernel

theorem C126 {σE : rS} {D N : Nat → Nat} {F : hF} {A : hA} {d c s : Nat} {Q : wQ} (H : HW V126 σE D N F A) {a1 : Int} (pf1 : F 0 1 = (D 1 : Int)) (pf2 : F 0 2 = (D 2 : Int)) (pf3 : F 0 3 = (D 3 : Int)) (n1 : Int) (en1 : (N 1 : Int) = n1) (n2 : Int) (en2 : (N 2 : Int) = n2) (n3 : Int) (en3 : (N 3 : Int) = n3) (u0_4 : Int) (eu0_4 : F 0 4 = u0_4) (u0_10 : Int) (eu0_10 : F 0 10 = u0_10) (u0_14 : Int) (eu0_14 : F 0 14 = u0_14) (u0_15 : Int) (eu0_15 : F 0 15 = u0_15) (w1 : Int → Int) (ew1 : A 1 = w1) (w2 : Int → Int) (ew2 : A 2 = w2) (w3 : Int → Int) (ew3 : A 3 = w3) (tot : Int) (h0 : inr (a1)) (h1 : (n1) = (n2) ∧ (n3) = (n2) ∧ (n2) ≤ 65536 ∧ ((n2) = 0 ∨ 64 ≤ (n2)) ∧ lgq ((n2)) = 0) (h2 : 0 ≤ (u0_4) ∧ (u0_4) ≤ (n2) ∧ (u0_4) ≤ 16383) (h3 : 0 ≤ (a1)) (h4 : (u0_10) ≤ (u0_14) ∧ 1 ≤ (u0_15) ∧ (u0_15) ≤ 16384) (h5 : FDI ((w1)) ((w2)) ((w3)) ((u0_4)) (tot) ((u0_10))) (k : ∀ (σ : rS) (Dₚ Nₚ : Nat → Nat) (Fₚ : hF) (Aₚ : hA) (cₚ sₚ : Nat), HW V126 σ Dₚ Nₚ Fₚ Aₚ → OUT (V126).length D N σE c s Dₚ Nₚ σ cₚ sₚ → SD [1, 2, 3] D Dₚ → SD [1, 2, 3] N Nₚ → SF [(0, 1), (0, 2), (0, 3), (0, 4)] F Fₚ → SA [1, 2, 3] A Aₚ → Fₚ 0 1 = (Dₚ 1 : Int) → Fₚ 0 2 = (Dₚ 2 : Int) → Fₚ 0 3 = (Dₚ 3 : Int) → ∀ m1 : Int, (Nₚ 1 : Int) = m1 → ∀ m2 : Int, (Nₚ 2 : Int) = m2 → ∀ m3 : Int, (Nₚ 3 : Int) = m3 → ∀ y0_4 : Int, Fₚ 0 4 = y0_4 → ∀ v1 : Int → Int, Aₚ 1 = v1 → ∀ v2 : Int → Int, Aₚ 2 = v2 → ∀ v3 : Int → Int, Aₚ 3 = v3 → ((m1) = (m2) ∧ (m3) = (m2) ∧ (m2) ≤ 65536 ∧ ((m2) = 0 ∨ 64 ≤ (m2)) ∧ lgq ((m2)) = 0) → ((y0_4) = (u0_4) + 1 ∧ (y0_4) ≤ (m2)) → (FDI ((v1)) ((v2)) ((v3)) ((u0_4) + 1) (tot + (a1) + (u0_14)) ((u0_10))) → (sq ((v1)) ((v2)) ((v3)) ((u0_4) + 1) = sq ((w1)) ((w2)) ((w3)) ((u0_4)) ++ [((a1), (u0_14), (u0_15))]) → Q none σ cₚ sₚ) : Ew 126 (d + 1) 0 (rargs 0 [.ref (D 0), I a1]) [] σE c s Q := by
  have O := OUT_refl (n := (V126).length) (D := D) (N := N) (σ := σE) (c := c) (s := s)
  have HE := H
  have r1 : (-2147483648 : Int) ≤ u0_4 ∧ u0_4 ≤ 2147483647 := rngE (show (-2147483648 : Int) ≤ F 0 4 ∧ F 0 4 ≤ 2147483647 from H.krg 0 4 (ltn len_V126_oz_C3cls rfl)) (show F 0 4 = u0_4 from (eu0_4))
  have r2 : (-2147483648 : Int) ≤ u0_10 ∧ u0_10 ≤ 2147483647 := rngE (show (-2147483648 : Int) ≤ F 0 10 ∧ F 0 10 ≤ 2147483647 from H.krg 0 10 (ltn len_V126_oz_C3cls rfl)) (show F 0 10 = u0_10 from (eu0_10))
  have r3 : (-2147483648 : Int) ≤ u0_14 ∧ u0_14 ≤ 2147483647 := rngE (show (-2147483648 : Int) ≤ F 0 14 ∧ F 0 14 ≤ 2147483647 from H.krg 0 14 (ltn len_V126_oz_C3cls rfl)) (show F 0 14 = u0_14 from (eu0_14))
  have r4 : (-2147483648 : Int) ≤ u0_15 ∧ u0_15 ≤ 2147483647 := rngE (show (-2147483648 : Int) ≤ F 0 15 ∧ F 0 15 ≤ 2147483647 from H.krg 0 15 (ltn len_V126_oz_C3cls rfl)) (show F 0 15 = u0_15 from (eu0_15))
  have r5 : (0 : Int) ≤ n1 ∧ n1 ≤ 1000000 := nleE (H.nle 1 (ltn len_V126_oz_C3cls rfl)) (show (N 1 : Int) = n1 from en1)
  have r6 : (0 : Int) ≤ n2 ∧ n2 ≤ 1000000 := nleE (H.nle 2 (ltn len_V126_oz_C3cls rfl)) (show (N 2 : Int) = n2 from en2)
  have r7 : (0 : Int) ≤ n3 ∧ n3 ≤ 1000000 := nleE (H.nle 3 (ltn len_V126_oz_C3cls rfl)) (show (N 3 : Int) = n3 from en3)
  have hc60 : ∀ (ls : rO) (σ : rS) (D_c60 N_c60 : Nat → Nat) (c_c60 s_c60 : Nat) (F_c60 : hF) (A_c60 : hA) , rlook ls 0 = some (.ref (D_c60 0)) → rlook ls 1 = some (I (a1)) → HW V126 σ D_c60 N_c60 F_c60 A_c60 → OUT (V126).length D N σE c s D_c60 N_c60 σ c_c60 s_c60 → SD [1, 2, 3] D D_c60 → SD [1, 2, 3] N N_c60 → SF [(0, 1), (0, 2), (0, 3)] F F_c60 → SA [1, 2, 3] A A_c60 → F_c60 0 1 = (D_c60 1 : Int) → F_c60 0 2 = (D_c60 2 : Int) → F_c60 0 3 = (D_c60 3 : Int) → ∀ mc60_1 : Int, (N_c60 1 : Int) = mc60_1 → ∀ mc60_2 : Int, (N_c60 2 : Int) = mc60_2 → ∀ mc60_3 : Int, (N_c60 3 : Int) = mc60_3 → ∀ wc60_1 : Int → Int, A_c60 1 = wc60_1 → ∀ wc60_2 : Int → Int, A_c60 2 = wc60_2 → ∀ wc60_3 : Int → Int, A_c60 3 = wc60_3 → ((mc60_1) = (mc60_2) ∧ (mc60_3) = (mc60_2) ∧ (mc60_2) ≤ 65536 ∧ ((mc60_2) = 0 ∨ 64 ≤ (mc60_2)) ∧ lgq ((mc60_2)) = 0) → ((u0_4) < (mc60_2)) → (FDI ((wc60_1)) ((wc60_2)) ((wc60_3)) ((u0_4)) (tot) ((u0_10))) → (SMQ ((w1)) ((w2)) ((w3)) ((wc60_1)) ((wc60_2)) ((wc60_3)) ((u0_4))) → Ew 126 (d + 1) 60 ls [] σ c_c60 s_c60 Q := by
   as_aux_lemma =>
    intro  ls σ D_c60 N_c60 c_c60 s_c60 F_c60 A_c60  lc60_0 lc60_1 H O hD_c60 hN_c60 hS_c60 hA_c60 pmc60_1 pmc60_2 pmc60_3 mc60_1 emc60_1 mc60_2 emc60_2 mc60_3 emc60_3  wc60_1 ewc60_1 wc60_2 ewc60_2 wc60_3 ewc60_3 jc60_0 jc60_1 jc60_2 jc60_3
    have cF_c60 : SF oz_C3clsl_0 F F_c60 := SF_trans (SF_refl) hS_c60 (any_sub (by decide +kernel))
    have mF_c60 := SFm_of cF_c60 oz_C3cls_1
    have cA_c60 : SA oz_C3clsl_1 A A_c60 := SA_trans (SA_refl) hA_c60 (any_subA (by decide +kernel))
    have mA_c60 := SAm_of cA_c60 oz_C3cls_2
    have cD_c60 : SD oz_C3clsl_1 D D_c60 := SD_trans (SD_refl) hD_c60 (any_subA (by decide +kernel))
    have mD_c60 := SDm_of cD_c60 oz_C3cls_2
    have cN_c60 : SD oz_C3clsl_1 N N_c60 := SD_trans (SD_refl) hN_c60 (any_subA (by decide +kernel))
    have mN_c60 := SDm_of cN_c60 oz_C3cls_2
    have r8 : (0 : Int) ≤ mc60_1 ∧ mc60_1 ≤ 1000000 := nleE (H.nle 1 (ltn len_V126_oz_C3cls rfl)) (show (N_c60 1 : Int) = mc60_1 from emc60_1)
    have r9 : (0 : Int) ≤ mc60_2 ∧ mc60_2 ≤ 1000000 := nleE (H.nle 2 (ltn len_V126_oz_C3cls rfl)) (show (N_c60 2 : Int) = mc60_2 from emc60_2)
    have r10 : (0 : Int) ≤ mc60_3 ∧ mc60_3 ≤ 1000000 := nleE (H.nle 3 (ltn len_V126_oz_C3cls rfl)) (show (N_c60 3 : Int) = mc60_3 from emc60_3)
    have hfd2 : FDI ((wc60_1)) ((wc60_2)) ((wc60_3)) ((u0_4)) (tot) ((u0_10)) := jc60_2
    have hsm2 : SMQ ((w1)) ((w2)) ((w3)) ((wc60_1)) ((wc60_2)) ((wc60_3)) ((u0_4)) := jc60_3
    refine Ew_of (pcₚ := 61) (fun _ => x_aload_n rfl lc60_0) ?_
    refine v_g H (o := 0) (v := .ref (D_c60 1)) rfl rfl rfl rfl rfl (vrf (pmc60_1)) ?_
    refine Ew_of (pcₚ := 65) (fun _ => x_aload_n rfl lc60_0) ?_
    refine v_g H (o := 0) (v := I (u0_4)) rfl rfl rfl rfl rfl (congrArg (fun z : Int => I z) (((hS_c60 0 4 rfl).trans (eu0_4)) : F_c60 0 4 = u0_4)) ?_
    refine Ew_of (pcₚ := 69) (fun _ => x_iload_n rfl lc60_1) ?_
    refine v_sI H (o := 1) (z := a1) rfl rfl rfl rfl (n := mc60_1) (emc60_1) (show 0 ≤ u0_4 ∧ u0_4 < mc60_1 from q_143 h2 jc60_0 jc60_1) (show inr (a1) from h0) (fun σ H Oₚ => ?_)
    have O := OUT_trans O Oₚ
    have cAu11 : SA oz_C3clsl_1 A (updA A_c60 1 (u0_4) (a1)) := SA_upd (cA_c60) rfl
    have mAu11 := SAm_of cAu11 oz_C3cls_2
    refine Ew_of (pcₚ := 71) (fun _ => x_aload_n rfl lc60_0) ?_
    refine v_g H (o := 0) (v := .ref (D_c60 2)) rfl rfl rfl rfl rfl (vrf (pmc60_2)) ?_
    refine Ew_of (pcₚ := 75) (fun _ => x_aload_n rfl lc60_0) ?_
    refine v_g H (o := 0) (v := I (u0_4)) rfl rfl rfl rfl rfl (congrArg (fun z : Int => I z) (((hS_c60 0 4 rfl).trans (eu0_4)) : F_c60 0 4 = u0_4)) ?_
    refine Ew_of (pcₚ := 79) (fun _ => x_aload_n rfl lc60_0) ?_
    refine v_g H (o := 0) (v := I (u0_14)) rfl rfl rfl rfl rfl (congrArg (fun z : Int => I z) (((mF_c60 0 14 rfl).trans (eu0_14)) : F_c60 0 14 = u0_14)) ?_
    refine v_sI H (o := 2) (z := u0_14) rfl rfl rfl rfl (n := mc60_2) (emc60_2) (show 0 ≤ u0_4 ∧ u0_4 < mc60_2 from q_144 h2 jc60_1) (show inr (u0_14) from q_18 r3) (fun σ H Oₚ => ?_)
    have O := OUT_trans O Oₚ
    have cAu12 : SA oz_C3clsl_1 A (updA (updA A_c60 1 (u0_4) (a1)) 2 (u0_4) (u0_14)) := SA_upd (cAu11) rfl
    have mAu12 := SAm_of cAu12 oz_C3cls_2
    refine Ew_of (pcₚ := 84) (fun _ => x_aload_n rfl lc60_0) ?_
    refine v_g H (o := 0) (v := .ref (D_c60 3)) rfl rfl rfl rfl rfl (vrf (pmc60_3)) ?_
    refine Ew_of (pcₚ := 88) (fun _ => x_aload_n rfl lc60_0) ?_
    refine v_g H (o := 0) (v := I (u0_4)) rfl rfl rfl rfl rfl (congrArg (fun z : Int => I z) (((hS_c60 0 4 rfl).trans (eu0_4)) : F_c60 0 4 = u0_4)) ?_
    refine Ew_of (pcₚ := 92) (fun _ => x_aload_n rfl lc60_0) ?_
    refine v_g H (o := 0) (v := I (u0_15)) rfl rfl rfl rfl rfl (congrArg (fun z : Int => I z) (((mF_c60 0 15 rfl).trans (eu0_15)) : F_c60 0 15 = u0_15)) ?_
    refine v_sI H (o := 3) (z := u0_15) rfl rfl rfl rfl (n := mc60_3) (emc60_3) (show 0 ≤ u0_4 ∧ u0_4 < mc60_3 from q_146 h2 jc60_0 jc60_1) (show inr (u0_15) from q_145 h4) (fun σ H Oₚ => ?_)
    have O := OUT_trans O Oₚ
    have cAu13 : SA oz_C3clsl_1 A (updA (updA (updA A_c60 1 (u0_4) (a1)) 2 (u0_4) (u0_14)) 3 (u0_4) (u0_15)) := SA_upd (cAu12) rfl
    have mAu13 := SAm_of cAu13 oz_C3cls_2
    refine Ew_of (pcₚ := 97) (fun _ => x_aload_n rfl lc60_0) ?_
    refine Ew_of (pcₚ := 98) (fun _ => x_dup rfl rfl) ?_
    refine v_g H (o := 0) (v := I (u0_4)) rfl rfl rfl rfl rfl (congrArg (fun z : Int => I z) (((hS_c60 0 4 rfl).trans (eu0_4)) : F_c60 0 4 = u0_4)) ?_
    refine Ew_of (pcₚ := 102) (fun _ => x_iconst rfl) ?_
    refine w_iadd rfl ?_
    refine v_p H (o := 0) (z := (u0_4 + 1)) (v := I ((u0_4 + 1))) rfl rfl rfl rfl rfl rfl rfl rfl (show (-2147483648 : Int) ≤ (u0_4 + 1) ∧ (u0_4 + 1) ≤ 2147483647 from q_147 h2) (fun σ H Oₚ => ?_)
    have O := OUT_trans O Oₚ
    have cFu14 : SF oz_C3clsl_0 F (updF F_c60 0 4 ((u0_4 + 1))) := SF_upd (cF_c60) rfl
    have mFu14 := SFm_of cFu14 oz_C3cls_1
    have : FDI ((upd1 (wc60_1) (u0_4) (a1))) ((upd1 (wc60_2) (u0_4) (u0_14))) ((upd1 (wc60_3) (u0_4) (u0_15))) ((u0_4) + 1) (tot + (a1) + (u0_14)) ((u0_10)) := FDI_next hfd2 (by omega) rfl (by omega) (by omega) (by omega) rfl
    have : sq ((upd1 (wc60_1) (u0_4) (a1))) ((upd1 (wc60_2) (u0_4) (u0_14))) ((upd1 (wc60_3) (u0_4) (u0_15))) ((u0_4) + 1) = sq ((w1)) ((w2)) ((w3)) ((u0_4)) ++ [((a1), (u0_14), (u0_15))] := sq_note (m := (u0_4) + 1) (by omega) (fun i a b => (hsm2 i a b).1) (fun i a b => (hsm2 i a b).2.1) (fun i a b => (hsm2 i a b).2.2) (by omega) (by omega) (by omega) rfl
    exact w_ret rfl (k _ _ _ _ _ _ _ H O (cD_c60) (cN_c60) (cFu14) (cAu13) (pmc60_1) (pmc60_2) (pmc60_3) (mc60_1) (emc60_1) (mc60_2) (emc60_2) (mc60_3) (emc60_3) ((u0_4 + 1)) (rfl) (upd1 (wc60_1) (u0_4) (a1)) (congrArg (fun q => upd1 q (u0_4) (a1)) (ewc60_1)) (upd1 (wc60_2) (u0_4) (u0_14)) (congrArg (fun q => upd1 q (u0_4) (u0_14)) (ewc60_2)) (upd1 (wc60_3) (u0_4) (u0_15)) (congrArg (fun q => upd1 q (u0_4) (u0_15)) (ewc60_3)) (show (mc60_1) = (mc60_2) ∧ (mc60_3) = (mc60_2) ∧ (mc60_2) ≤ 65536 ∧ ((mc60_2) = 0 ∨ 64 ≤ (mc60_2)) ∧ lgq ((mc60_2)) = 0 from jc60_0) (show ((u0_4 + 1)) = (u0_4) + 1 ∧ ((u0_4 + 1)) ≤ (mc60_2) from q_148 jc60_1) (show FDI ((upd1 (wc60_1) (u0_4) (a1))) ((upd1 (wc60_2) (u0_4) (u0_14))) ((upd1 (wc60_3) (u0_4) (u0_15))) ((u0_4) + 1) (tot + a1 + (u0_14)) ((u0_10)) by assumption) (show sq ((upd1 (wc60_1) (u0_4) (a1))) ((upd1 (wc60_2) (u0_4) (u0_14))) ((upd1 (wc60_3) (u0_4) (u0_15))) ((u0_4) + 1) = sq ((w1)) ((w2)) ((w3)) ((u0_4)) ++ [(a1, (u0_14), (u0_15))] by assumption))
  have hfd : FDI ((w1)) ((w2)) ((w3)) ((u0_4)) (tot) ((u0_10)) := h5
  refine Ew_of (pcₚ := 1) (fun _ => x_aload_n rfl rfl) ?_
  refine v_g H (o := 0) (v := I (u0_4)) rfl rfl rfl rfl rfl (congrArg (fun z : Int => I z) ((eu0_4) : F 0 4 = u0_4)) ?_
  refine Ew_of (pcₚ := 5) (fun _ => x_aload_n rfl rfl) ?_
  refine v_g H (o := 0) (v := .ref (D 2)) rfl rfl rfl rfl rfl (vrf (pf2)) ?_
  refine v_len H (o := 2) rfl rfl rfl rfl (n := n2) (en2) ?_
  refine w_icmpne (t := 60) rfl rfl (show inr (u0_4) from q_149 h2) (show inr (n2) from q_37 r6) (fun b15 => ?_) (fun b15 => ?_)
  · have : SMQ ((w1)) ((w2)) ((w3)) ((w1)) ((w2)) ((w3)) ((u0_4)) := by first | assumption | exact fun i a b => ⟨rfl, rfl, rfl⟩
    exact hc60  _ _ _ _ _ _ _ _  (rfl) (rfl) H O (SD_refl) (SD_refl) (SF_refl) (SA_refl) (pf1) (pf2) (pf3) (n1) (en1) (n2) (en2) (n3) (en3)  (w1) (ew1) (w2) (ew2) (w3) (ew3) (show (n1) = (n2) ∧ (n3) = (n2) ∧ (n2) ≤ 65536 ∧ ((n2) = 0 ∨ 64 ≤ (n2)) ∧ lgq ((n2)) = 0 from h1) (show (u0_4) < (n2) by omega) (hfd) (show SMQ ((w1)) ((w2)) ((w3)) ((w1)) ((w2)) ((w3)) ((u0_4)) by assumption)
  · refine Ew_of (pcₚ := 14) (fun _ => x_bipush (z := 64) rfl (by decide)) ?_
    refine Ew_of (pcₚ := 15) (fun _ => x_iconst rfl) ?_
    refine Ew_of (pcₚ := 16) (fun _ => x_aload_n rfl rfl) ?_
    refine v_g H (o := 0) (v := I (u0_4)) rfl rfl rfl rfl rfl (congrArg (fun z : Int => I z) ((eu0_4) : F 0 4 = u0_4)) ?_
    refine w_imul rfl ?_
    refine v_max rfl rfl (show inr (64) from q_151) (show inr ((4 * u0_4)) from q_150 h2) (fun z16 gz16 => ?_)
    refine Ew_of (pcₚ := 24) (fun _ => x_istore_n rfl) ?_
    have hlg : lgq ((z16)) = 0 := lgq_s (m := (n2)) (by omega) (by omega) (by omega)
    refine Ew_of (pcₚ := 25) (fun _ => x_aload_n rfl (rk_o (rfl) rfl rfl)) ?_
    refine Ew_of (pcₚ := 26) (fun _ => x_aload_n rfl (rk_o (rfl) rfl rfl)) ?_
    refine v_g H (o := 0) (v := .ref (D 1)) rfl rfl rfl rfl rfl (vrf (pf1)) ?_
    refine Ew_of (pcₚ := 30) (fun _ => x_iload_n rfl rk_s) ?_
    have hglit := grow_ok (m := (n1)) (n := (z16)) (by omega) (by omega) (by omega)
    have hgC := hglit.1
    have hgS := hglit.2
    refine v_growI H (p := 0) (k := 1) (t := 1) (n := z16) rfl (by rfl) rfl rfl (fun _ => rfl) rfl rfl rfl rfl (fun z => vrf (z := (z : Int)) rfl) rfl rfl rfl rfl (by decide +kernel) rfl (m := n1) (en1) (show n1 < z16 ∧ z16 ≤ 1000000 by omega) (show pC (n1 : Int).toNat + 1 ≤ pC (z16 : Int).toNat by assumption) (show pS (n1 : Int).toNat + z16 ≤ pS (z16 : Int).toNat by assumption) (fun σ D17 N17 F17 A17 H Oₚ hD17 hN17 em17 hS17 pm17 hA17 ga17 => ?_)
    have O := OUT_trans O Oₚ
    have ga17 : ∀ i, 0 ≤ i → i < n1 → A17 1 i = (w1) i := fun i a b => (ga17 i a b).trans (congrFun (ew1) i)
    have cF17 : SF oz_C3clsl_0 F F17 := SF_trans (SF_refl) hS17 (any_sub (by decide +kernel))
    have mF17 := SFm_of cF17 oz_C3cls_1
    have cA17 : SA oz_C3clsl_1 A A17 := SA_trans (SA_refl) hA17 (any_subA (by decide +kernel))
    have mA17 := SAm_of cA17 oz_C3cls_2
    have cD17 : SD oz_C3clsl_1 D D17 := SD_trans (SD_refl) hD17 (any_subA (by decide +kernel))
    have mD17 := SDm_of cD17 oz_C3cls_2
    have cN17 : SD oz_C3clsl_1 N N17 := SD_trans (SD_refl) hN17 (any_subA (by decide +kernel))
    have mN17 := SDm_of cN17 oz_C3cls_2
    have pf17_0_1 : F17 0 1 = (D17 1 : Int) := pm17
    have pf17_0_2 : F17 0 2 = (D17 2 : Int) := (hS17 0 2 rfl).trans ((pf2).trans (congrArg (fun q : Nat => (q : Int)) (hD17 2 rfl).symm))
    have pf17_0_3 : F17 0 3 = (D17 3 : Int) := (hS17 0 3 rfl).trans ((pf3).trans (congrArg (fun q : Nat => (q : Int)) (hD17 3 rfl).symm))
    refine Ew_of (pcₚ := 37) (fun _ => x_aload_n rfl (rk_o (rfl) rfl rfl)) ?_
    refine Ew_of (pcₚ := 38) (fun _ => x_aload_n rfl (rk_o (rfl) rfl rfl)) ?_
    refine Ew_stk (show ([.ref (D 0), .ref (D 0)] : List Value) = [.ref (D17 0), .ref (D17 0)] by rw [show D17 0 = D 0 from mD17 0 rfl]) ?_
    refine v_g H (o := 0) (v := .ref (D17 2)) rfl rfl rfl rfl rfl (vrf (pf17_0_2)) ?_
    refine Ew_of (pcₚ := 42) (fun _ => x_iload_n rfl rk_s) ?_
    have hglen := grow_ok (m := (n2)) (n := (z16)) (by omega) (by omega) (by omega)
    have hgC := hglen.1
    have hgS := hglen.2
    refine v_growI H (p := 0) (k := 2) (t := 2) (n := z16) rfl (by rfl) rfl rfl (fun _ => rfl) rfl rfl rfl rfl (fun z => vrf (z := (z : Int)) rfl) rfl rfl rfl rfl (by decide +kernel) rfl (m := n2) ((congrArg (fun q : Nat => (q : Int)) (hN17 2 rfl)).trans (en2)) (show n2 < z16 ∧ z16 ≤ 1000000 by omega) (show pC (n2 : Int).toNat + 1 ≤ pC (z16 : Int).toNat by assumption) (show pS (n2 : Int).toNat + z16 ≤ pS (z16 : Int).toNat by assumption) (fun σ D18 N18 F18 A18 H Oₚ hD18 hN18 em18 hS18 pm18 hA18 ga18 => ?_)
    have O := OUT_trans O Oₚ
    have ga18 : ∀ i, 0 ≤ i → i < n2 → A18 2 i = (w2) i := fun i a b => (ga18 i a b).trans (congrFun ((funext (hA17 2 rfl)).trans (ew2)) i)
    have cF18 : SF oz_C3clsl_0 F F18 := SF_trans (cF17) hS18 (any_sub (by decide +kernel))
    have mF18 := SFm_of cF18 oz_C3cls_1
    have cA18 : SA oz_C3clsl_1 A A18 := SA_trans (cA17) hA18 (any_subA (by decide +kernel))
    have mA18 := SAm_of cA18 oz_C3cls_2
    have cD18 : SD oz_C3clsl_1 D D18 := SD_trans (cD17) hD18 (any_subA (by decide +kernel))
    have mD18 := SDm_of cD18 oz_C3cls_2
    have cN18 : SD oz_C3clsl_1 N N18 := SD_trans (cN17) hN18 (any_subA (by decide +kernel))
    have mN18 := SDm_of cN18 oz_C3cls_2
    have pf18_0_1 : F18 0 1 = (D18 1 : Int) := (hS18 0 1 rfl).trans ((pf17_0_1).trans (congrArg (fun q : Nat => (q : Int)) (hD18 1 rfl).symm))
    have pf18_0_2 : F18 0 2 = (D18 2 : Int) := pm18
    have pf18_0_3 : F18 0 3 = (D18 3 : Int) := (hS18 0 3 rfl).trans ((pf17_0_3).trans (congrArg (fun q : Nat => (q : Int)) (hD18 3 rfl).symm))
    refine Ew_of (pcₚ := 49) (fun _ => x_aload_n rfl (rk_o (rfl) rfl rfl)) ?_
    refine Ew_of (pcₚ := 50) (fun _ => x_aload_n rfl (rk_o (rfl) rfl rfl)) ?_
    refine Ew_stk (show ([.ref (D 0), .ref (D 0)] : List Value) = [.ref (D18 0), .ref (D18 0)] by rw [show D18 0 = D 0 from mD18 0 rfl]) ?_
    refine v_g H (o := 0) (v := .ref (D18 3)) rfl rfl rfl rfl rfl (vrf (pf18_0_3)) ?_
    refine Ew_of (pcₚ := 54) (fun _ => x_iload_n rfl rk_s) ?_
    have hgdis := grow_ok (m := (n3)) (n := (z16)) (by omega) (by omega) (by omega)
    have hgC := hgdis.1
    have hgS := hgdis.2
    refine v_growI H (p := 0) (k := 3) (t := 3) (n := z16) rfl (by rfl) rfl rfl (fun _ => rfl) rfl rfl rfl rfl (fun z => vrf (z := (z : Int)) rfl) rfl rfl rfl rfl (by decide +kernel) rfl (m := n3) ((congrArg (fun q : Nat => (q : Int)) (hN18 3 rfl)).trans ((congrArg (fun q : Nat => (q : Int)) (hN17 3 rfl)).trans (en3))) (show n3 < z16 ∧ z16 ≤ 1000000 by omega) (show pC (n3 : Int).toNat + 1 ≤ pC (z16 : Int).toNat by assumption) (show pS (n3 : Int).toNat + z16 ≤ pS (z16 : Int).toNat by assumption) (fun σ D19 N19 F19 A19 H Oₚ hD19 hN19 em19 hS19 pm19 hA19 ga19 => ?_)
    have O := OUT_trans O Oₚ
    have ga19 : ∀ i, 0 ≤ i → i < n3 → A19 3 i = (w3) i := fun i a b => (ga19 i a b).trans (congrFun ((funext (hA18 3 rfl)).trans ((funext (hA17 3 rfl)).trans (ew3))) i)
    have cF19 : SF oz_C3clsl_0 F F19 := SF_trans (cF18) hS19 (any_sub (by decide +kernel))
    have mF19 := SFm_of cF19 oz_C3cls_1
    have cA19 : SA oz_C3clsl_1 A A19 := SA_trans (cA18) hA19 (any_subA (by decide +kernel))
    have mA19 := SAm_of cA19 oz_C3cls_2
    have cD19 : SD oz_C3clsl_1 D D19 := SD_trans (cD18) hD19 (any_subA (by decide +kernel))
    have mD19 := SDm_of cD19 oz_C3cls_2
    have cN19 : SD oz_C3clsl_1 N N19 := SD_trans (cN18) hN19 (any_subA (by decide +kernel))
    have mN19 := SDm_of cN19 oz_C3cls_2
    have pf19_0_1 : F19 0 1 = (D19 1 : Int) := (hS19 0 1 rfl).trans ((pf18_0_1).trans (congrArg (fun q : Nat => (q : Int)) (hD19 1 rfl).symm))
    have pf19_0_2 : F19 0 2 = (D19 2 : Int) := (hS19 0 2 rfl).trans ((pf18_0_2).trans (congrArg (fun q : Nat => (q : Int)) (hD19 2 rfl).symm))
    have pf19_0_3 : F19 0 3 = (D19 3 : Int) := pm19
    have : FDI ((A17 1)) ((A18 2)) ((A19 3)) ((u0_4)) (tot) ((u0_10)) := FDI_congr hfd ga17 ga18 ga19 (by omega) (by omega)
    have : SMQ ((w1)) ((w2)) ((w3)) ((A17 1)) ((A18 2)) ((A19 3)) ((u0_4)) := fun i a b => ⟨ga17 i a (by omega), ga18 i a (by omega), ga19 i a (by omega)⟩
    have : SMQ ((w1)) ((w2)) ((w3)) ((A17 1)) ((A18 2)) ((A19 3)) ((u0_4)) := by first | assumption | exact fun i a b => ⟨rfl, rfl, rfl⟩
    have r20 : (0 : Int) ≤ z16 ∧ z16 ≤ 1000000 := nleE (H.nle 1 (ltn len_V126_oz_C3cls rfl)) (show (N19 1 : Int) = z16 from (congrArg (fun q : Nat => (q : Int)) (hN19 1 rfl)).trans ((congrArg (fun q : Nat => (q : Int)) (hN18 1 rfl)).trans (em17)))
    exact hc60  _ _ _ _ _ _ _ _  ((rk_o (rfl) rfl rfl).trans (congrArg (fun q : Nat => some (Value.ref q)) (mD19 0 rfl).symm)) (rk_o (rfl) rfl rfl) H O (SD_trans (SD_trans (SD_trans (SD_refl) hD17 (any_subA (by decide +kernel))) hD18 (any_subA (by decide +kernel))) hD19 (any_subA (by decide +kernel))) (SD_trans (SD_trans (SD_trans (SD_refl) hN17 (any_subA (by decide +kernel))) hN18 (any_subA (by decide +kernel))) hN19 (any_subA (by decide +kernel))) (SF_trans (SF_trans (SF_trans (SF_refl) hS17 (any_sub (by decide +kernel))) hS18 (any_sub (by decide +kernel))) hS19 (any_sub (by decide +kernel))) (SA_trans (SA_trans (SA_trans (SA_refl) hA17 (any_subA (by decide +kernel))) hA18 (any_subA (by decide +kernel))) hA19 (any_subA (by decide +kernel))) (pf19_0_1) (pf19_0_2) (pf19_0_3) (z16) ((congrArg (fun q : Nat => (q : Int)) (hN19 1 rfl)).trans ((congrArg (fun q : Nat => (q : Int)) (hN18 1 rfl)).trans (em17))) (z16) ((congrArg (fun q : Nat => (q : Int)) (hN19 2 rfl)).trans (em18)) (z16) (em19)  (A17 1) ((funext (hA19 1 rfl)).trans (funext (hA18 1 rfl))) (A18 2) (funext (hA19 2 rfl)) (A19 3) (rfl) (show (z16) = (z16) ∧ (z16) = (z16) ∧ (z16) ≤ 65536 ∧ ((z16) = 0 ∨ 64 ≤ (z16)) ∧ lgq ((z16)) = 0 by omega) (show (u0_4) < (z16) by omega) (show FDI ((A17 1)) ((A18 2)) ((A19 3)) ((u0_4)) (tot) ((u0_10)) by assumption) (show SMQ ((w1)) ((w2)) ((w3)) ((A17 1)) ((A18 2)) ((A19 3)) ((u0_4)) by assumption)


end
