abbrev V124 : vV := [(0, 5, [(4, 0), (4, 0), (4, 0), (4, 0), (0, 0), (0, 0), (0, 0), (4, 0), (4, 0), (0, 0), (0, 0), (0, 0), (0, 0), (0, 0), (0, 0), (0, 0), (0, 0), (0, 0), (0, 0)]), (0, 7, [(4, 0), (0, 0), (1, 0), (0, 0), (0, 0)]), (1, 0, []), (1, 1, []), (1, 1, [])]
theorem len_V124_oz_C2cls : (V124).length = 5 := by decide +kernel
theorem oz_C2cls_1 : vsub V124 V122 [0, 1, 2] = true := by decide +kernel
def oz_C2clsl_0 : List (Nat × Nat) := [(0, 6)]
theorem oz_C2cls_2 : (oz_C2clsl_0).all (fun p => !tbz 64 (Nat.add (Nat.mul 32 p.1) p.2)) = true := by decide +kernel
def oz_C2clsl_1 : List Nat := [4]
theorem oz_C2cls_3 : (oz_C2clsl_1).all (fun p => !tbz 16 p) = true := by decide +kernel
def oz_C2clsl_2 : List Nat := [0, 1, 2]
theorem oz_C2cls_4 : okc oz_C2clsl_2 524800 = true := by decide +kernel
/-- Finder.unlay: this, this.data, this.data.bytes, this.back, this.heads -/
theorem C124 {σE : rS} {D N : Nat → Nat} {F : hF} {A : hA} {d c s : Nat} {Q : wQ} (H : HW V124 σE D N F A) {a1 : Int} (pf1 : F 0 0 = (D 1 : Int)) (pf2 : F 1 0 = (D 2 : Int)) (pf3 : F 0 8 = (D 3 : Int)) (pf4 : F 0 7 = (D 4 : Int)) (n2 : Int) (en2 : (N 2 : Int) = n2) (n3 : Int) (en3 : (N 3 : Int) = n3) (n4 : Int) (en4 : (N 4 : Int) = n4) (u0_6 : Int) (eu0_6 : F 0 6 = u0_6) (u0_10 : Int) (eu0_10 : F 0 10 = u0_10) (u1_1 : Int) (eu1_1 : F 1 1 = u1_1) (w2 : Int → Int) (ew2 : A 2 = w2) (w3 : Int → Int) (ew3 : A 3 = w3) (w4 : Int → Int) (ew4 : A 4 = w4) (h0 : inr (a1)) (h1 : 0 ≤ (u1_1) ∧ (u1_1) ≤ (n2) ∧ (n2) ≤ 65536 ∧ (u1_1) ≤ 16384) (h2 : 1 ≤ (u0_10) ∧ (u0_10) ≤ 8) (h3 : 0 ≤ (a1) ∧ (a1) ≤ (u0_6)) (h4 : (u0_6) = 0 ∨ (u0_6) + (u0_10) ≤ (u1_1) + 1) (h5 : BKI ((w2)) ((w3)) ((u0_10)) ((u0_6))) (h6 : HDI ((w2)) ((w4)) ((u0_10)) ((u0_6))) (h7 : (n4) = 2048) (h8 : 0 ≤ (u0_6) ∧ (u0_6) ≤ (n3) ∧ (n3) ≤ 16384) (k : ∀ (σ : rS) (Fₚ : hF) (Aₚ : hA), HW V124 σ D N Fₚ Aₚ → OUT (V124).length D N σE c s D N σ c s → SF [(0, 6)] F Fₚ → SA [4] A Aₚ → ∀ y0_6 : Int, Fₚ 0 6 = y0_6 → ∀ v4 : Int → Int, Aₚ 4 = v4 → ((y0_6) = (a1)) → (BKI ((w2)) ((w3)) ((u0_10)) ((y0_6))) → (HDI ((w2)) ((v4)) ((u0_10)) ((y0_6))) → Q none σ c s) : Ew 124 (d + 1) 0 (rargs 0 [.ref (D 0), I a1]) [] σE c s Q := by
  have O := OUT_refl (n := (V124).length) (D := D) (N := N) (σ := σE) (c := c) (s := s)
  have HE := H
  have r1 : (-2147483648 : Int) ≤ u0_6 ∧ u0_6 ≤ 2147483647 := rngE (show (-2147483648 : Int) ≤ F 0 6 ∧ F 0 6 ≤ 2147483647 from H.krg 0 6 (ltn len_V124_oz_C2cls rfl)) (show F 0 6 = u0_6 from (eu0_6))
  have r2 : (-2147483648 : Int) ≤ u0_10 ∧ u0_10 ≤ 2147483647 := rngE (show (-2147483648 : Int) ≤ F 0 10 ∧ F 0 10 ≤ 2147483647 from H.krg 0 10 (ltn len_V124_oz_C2cls rfl)) (show F 0 10 = u0_10 from (eu0_10))
  have r3 : (-2147483648 : Int) ≤ u1_1 ∧ u1_1 ≤ 2147483647 := rngE (show (-2147483648 : Int) ≤ F 1 1 ∧ F 1 1 ≤ 2147483647 from H.krg 1 1 (ltn len_V124_oz_C2cls rfl)) (show F 1 1 = u1_1 from (eu1_1))
  have r4 : (0 : Int) ≤ n2 ∧ n2 ≤ 1000000 := nleE (H.nle 2 (ltn len_V124_oz_C2cls rfl)) (show (N 2 : Int) = n2 from en2)
  have r5 : (0 : Int) ≤ n3 ∧ n3 ≤ 1000000 := nleE (H.nle 3 (ltn len_V124_oz_C2cls rfl)) (show (N 3 : Int) = n3 from en3)
  have r6 : (0 : Int) ≤ n4 ∧ n4 ≤ 1000000 := nleE (H.nle 4 (ltn len_V124_oz_C2cls rfl)) (show (N 4 : Int) = n4 from en4)
  suffices hl0 : ∀ (m : Nat), ∀ (ls : rO) (σ : rS) (F_0 : hF) (A_0 : hA) , rlook ls 0 = some (.ref (D 0)) → rlook ls 1 = some (I (a1)) → HW V124 σ D N F_0 A_0 → OUT (V124).length D N σE c s D N σ c s → SF [(0, 6)] F F_0 → SA [4] A A_0 → ∀ y0_0_6 : Int, F_0 0 6 = y0_0_6 → ∀ w0_4 : Int → Int, A_0 4 = w0_4 → ((a1) ≤ (y0_0_6) ∧ (y0_0_6) ≤ (u0_6)) → (BKI ((w2)) ((w3)) ((u0_10)) ((y0_0_6))) → (HDI ((w2)) ((w0_4)) ((u0_10)) ((y0_0_6))) → ((y0_0_6) - (a1)).toNat = m → Ew 124 (d + 1) 0 ls [] σ c s Q from
    hl0 _ _ _ _ _  (rfl) (rfl) H O (SF_refl) (SA_refl)   (u0_6) ((eu0_6)) (w4) (ew4) (show (a1) ≤ (u0_6) ∧ (u0_6) ≤ (u0_6) from q_2651 h3) (show BKI ((w2)) ((w3)) ((u0_10)) ((u0_6)) from h5) (show HDI ((w2)) ((w4)) ((u0_10)) ((u0_6)) from h6) rfl
  as_aux_lemma =>
  intro m
  induction m using Nat.strongRecOn with
  | _ m ih0 =>
    intro ls σ F_0 A_0  l0_0 l0_1 H O hS_0 hA_0   y0_0_6 ey0_0_6 w0_4 ew0_4 j0_0 j0_1 j0_2 hm0
    have cF_0 : SF oz_C2clsl_0 F F_0 := SF_trans (SF_refl) hS_0 (any_sub (by decide +kernel))
    have mF_0 := SFm_of cF_0 oz_C2cls_2
    have cA_0 : SA oz_C2clsl_1 A A_0 := SA_trans (SA_refl) hA_0 (any_subA (by decide +kernel))
    have mA_0 := SAm_of cA_0 oz_C2cls_3
    have r7 : (-2147483648 : Int) ≤ y0_0_6 ∧ y0_0_6 ≤ 2147483647 := rngE (show (-2147483648 : Int) ≤ F_0 0 6 ∧ F_0 0 6 ≤ 2147483647 from H.krg 0 6 (ltn len_V124_oz_C2cls rfl)) (show F_0 0 6 = y0_0_6 from (ey0_0_6))
    have j0_b : BKI ((w2)) ((w3)) ((u0_10)) ((y0_0_6)) := j0_1
    have j0_h : HDI ((w2)) ((w0_4)) ((u0_10)) ((y0_0_6)) := j0_2
    refine Ew_of (pcₚ := 1) (fun _ => x_aload_n rfl l0_0) ?_
    refine v_g H (o := 0) (v := I (y0_0_6)) rfl rfl rfl rfl rfl (congrArg (fun z : Int => I z) ((ey0_0_6) : F_0 0 6 = y0_0_6)) ?_
    refine Ew_of (pcₚ := 5) (fun _ => x_iload_n rfl l0_1) ?_
    refine w_icmple (t := 47) rfl rfl (show inr (y0_0_6) from q_22 r7) (show inr (a1) from h0) (fun b8 => ?_) (fun b8 => ?_)
    · exact w_ret rfl (k _ _ _ H O (cF_0) (cA_0) (y0_0_6) ((ey0_0_6)) (w0_4) (ew0_4) (show (y0_0_6) = a1 from q_2652 b8 j0_0) (show BKI ((w2)) ((w3)) ((u0_10)) ((y0_0_6)) from j0_b) (show HDI ((w2)) ((w0_4)) ((u0_10)) ((y0_0_6)) from j0_h))
    · refine Ew_of (pcₚ := 9) (fun _ => x_aload_n rfl l0_0) ?_
      refine v_g H (o := 0) (v := .ref (D 4)) rfl rfl rfl rfl rfl (vrf ((mF_0 0 7 rfl).trans (pf4))) ?_
      refine Ew_of (pcₚ := 13) (fun _ => x_aload_n rfl l0_0) ?_
      refine Ew_of (pcₚ := 14) (fun _ => x_aload_n rfl l0_0) ?_
      refine v_g H (o := 0) (v := I (y0_0_6)) rfl rfl rfl rfl rfl (congrArg (fun z : Int => I z) ((ey0_0_6) : F_0 0 6 = y0_0_6)) ?_
      refine Ew_of (pcₚ := 18) (fun _ => x_iconst rfl) ?_
      refine w_isub rfl ?_
      refine v_inv H (o := 0) rfl rfl rfl rfl rfl rfl (by rfl) (C122 (D := puc 524800 D) (N := puc 524800 N) (HW_subc H oz_C2cls_1 oz_C2cls_4) ((mF_0 0 0 rfl).trans (pf1)) ((mF_0 1 0 rfl).trans (pf2)) (n2) (en2) (u0_10) (((mF_0 0 10 rfl).trans (eu0_10))) (u1_1) (((mF_0 1 1 rfl).trans (eu1_1))) (w2) ((funext (mA_0 2 rfl)).trans (ew2)) (show inr ((y0_0_6 - 1)) from q_2654 b8 h3 r7) (show 0 ≤ (u1_1) ∧ (u1_1) ≤ (n2) ∧ (n2) ≤ 65536 ∧ (u1_1) ≤ 16384 from h1) (show 1 ≤ (u0_10) ∧ (u0_10) ≤ 8 from h2) (show 0 ≤ ((y0_0_6 - 1)) ∧ ((y0_0_6 - 1)) + (u0_10) ≤ (u1_1) from q_2653 b8 h1 h2 h3 h4 j0_0) (fun z9 σ9 F9ₚ A9ₚ Hₚ Oₚ hS9 hA9 pz9_0 pz9_1 pz9_2 => ⟨rfl, ?_⟩))
      refine v_backc (c := c) (s := s) H oz_C2cls_1 oz_C2cls_4 Hₚ Oₚ (fun F9 A9 H Oₚ eF9 eA9 => ?_)
      have O := OUT_trans O Oₚ
      -- Finder.hashAt
      have cF9 : SF oz_C2clsl_0 F F9 := SF_trans (cF_0) (SF_gluc (ι := oz_C2clsl_2) oz_C2cls_4 hS9 eF9 (by decide +kernel)) (any_sub (lₚ := []) (by decide +kernel))
      have mF9 := SFm_of cF9 oz_C2cls_2
      have cA9 : SA oz_C2clsl_1 A A9 := SA_trans (cA_0) (SA_gluc (ι := oz_C2clsl_2) oz_C2cls_4 hA9 eA9 (by decide +kernel)) (any_subA (lₚ := []) (by decide +kernel))
      have mA9 := SAm_of cA9 oz_C2cls_3
      refine Ew_of (pcₚ := 23) (fun _ => x_aload_n rfl l0_0) ?_
      refine v_g H (o := 0) (v := .ref (D 3)) rfl rfl rfl rfl rfl (vrf ((mF9 0 8 rfl).trans (pf3))) ?_
      refine Ew_of (pcₚ := 27) (fun _ => x_aload_n rfl l0_0) ?_
      refine v_g H (o := 0) (v := I (y0_0_6)) rfl rfl rfl rfl rfl (congrArg (fun z : Int => I z) ((((show F9 0 6 = F_0 0 6 from (eF9 0 6).trans (hS9 0 6 rfl))).trans (ey0_0_6)) : F9 0 6 = y0_0_6)) ?_
      refine Ew_of (pcₚ := 31) (fun _ => x_iconst rfl) ?_
      refine w_isub rfl ?_
      refine v_lI H (o := 3) rfl rfl rfl rfl (n := n3) (en3) (show 0 ≤ (y0_0_6 - 1) ∧ (y0_0_6 - 1) < n3 from q_2655 b8 h3 h8 j0_0) (fun v10 ev10 qv10 => ?_)
      have ev10 : (w3) ((y0_0_6 - 1)) = v10 := (congrFun ((funext (mA9 3 rfl)).trans (ew3)) ((y0_0_6 - 1))).symm.trans ev10
      have hbv := ev10
      have hwb := j0_b ((y0_0_6) - 1) (by omega) (by omega)
      have hhn : HDI ((w2)) (upd1 ((w0_4)) ((z9)) ((v10))) ((u0_10)) ((y0_0_6) - 1) := HDI_un j0_h j0_b rfl (by omega) pz9_2 hbv.symm
      have hbn : BKI ((w2)) ((w3)) ((u0_10)) ((y0_0_6) - 1) := BKI_le j0_b (by omega)
      refine v_sI H (o := 4) (z := v10) rfl rfl rfl rfl (n := n4) (en4) (show 0 ≤ z9 ∧ z9 < n4 from q_2641 h7 pz9_1) (show inr (v10) from qv10) (fun σ H Oₚ => ?_)
      have O := OUT_trans O Oₚ
      have cAu11 : SA oz_C2clsl_1 A (updA A9 4 (z9) (v10)) := SA_upd (cA9) rfl
      have mAu11 := SAm_of cAu11 oz_C2cls_3
      refine Ew_of (pcₚ := 35) (fun _ => x_aload_n rfl l0_0) ?_
      refine Ew_of (pcₚ := 36) (fun _ => x_dup rfl rfl) ?_
      refine v_g H (o := 0) (v := I (y0_0_6)) rfl rfl rfl rfl rfl (congrArg (fun z : Int => I z) ((((show F9 0 6 = F_0 0 6 from (eF9 0 6).trans (hS9 0 6 rfl))).trans (ey0_0_6)) : F9 0 6 = y0_0_6)) ?_
      refine Ew_of (pcₚ := 40) (fun _ => x_iconst rfl) ?_
      refine w_isub rfl ?_
      refine v_p H (o := 0) (z := (y0_0_6 - 1)) (v := I ((y0_0_6 - 1))) rfl rfl rfl rfl rfl rfl rfl rfl (show (-2147483648 : Int) ≤ (y0_0_6 - 1) ∧ (y0_0_6 - 1) ≤ 2147483647 from q_2656 b8 h3 r7) (fun σ H Oₚ => ?_)
      have O := OUT_trans O Oₚ
      have cFu12 : SF oz_C2clsl_0 F (updF F9 0 6 ((y0_0_6 - 1))) := SF_upd (cF9) rfl
      have mFu12 := SFm_of cFu12 oz_C2cls_2
      refine Ew_of (pcₚ := 0) (fun _ => x_goto rfl rfl) ?_
      exact ih0 _ (msE hm0 q_2658 (q_34 b8)) _ _ _ _  (l0_0) (l0_1) H O (SF_upd (SF_trans (hS_0) (SF_gluc (ι := oz_C2clsl_2) oz_C2cls_4 hS9 eF9 (by decide +kernel)) (any_sub (lₚ := []) (by decide +kernel))) rfl) (SA_upd (SA_trans (hA_0) (SA_gluc (ι := oz_C2clsl_2) oz_C2cls_4 hA9 eA9 (by decide +kernel)) (any_subA (lₚ := []) (by decide +kernel))) rfl)   ((y0_0_6 - 1)) (rfl) (upd1 (w0_4) (z9) (v10)) (congrArg (fun q => upd1 q (z9) (v10)) (((show A9 4 = A_0 4 from (eA9 4))).trans (ew0_4))) (show (a1) ≤ ((y0_0_6 - 1)) ∧ ((y0_0_6 - 1)) ≤ (u0_6) from q_2657 b8 j0_0) (show BKI ((w2)) ((w3)) ((u0_10)) (((y0_0_6 - 1))) from hbn) (show HDI ((w2)) ((upd1 (w0_4) (z9) (v10))) ((u0_10)) (((y0_0_6 - 1))) from hhn) rfl
abbrev V128 : vV := [(0, 5, [(4, 0), (4, 0), (4, 0), (4, 0), (0, 0), (0, 0), (0, 0), (4, 0), (4, 0), (0, 0), (0, 0), (0, 0), (0, 0), (0, 0), (0, 0), (0, 0), (0, 0), (0, 0), (0, 0)]), (0, 7, [(4, 0), (0, 0), (1, 0), (0, 0), (0, 0)]), (1, 0, [])]
theorem len_V128_oz_C2cls : (V128).length = 3 := by decide +kernel
def oz_C2clsl_3 : List (Nat × Nat) := []
theorem oz_C2cls_6 : (oz_C2clsl_3).all (fun p => !tbz 0 (Nat.add (Nat.mul 32 p.1) p.2)) = true := by decide +kernel
def oz_C2clsl_4 : List Nat := []
theorem oz_C2cls_7 : (oz_C2clsl_4).all (fun p => !tbz 0 p) = true := by decide +kernel
/-- Finder.common: this, this.data, this.data.bytes -/
theorem C128 {σE : rS} {D N : Nat → Nat} {F : hF} {A : hA} {d c s : Nat} {Q : wQ} (H : HW V128 σE D N F A) {a1 a2 : Int} (pf1 : F 0 0 = (D 1 : Int)) (pf2 : F 1 0 = (D 2 : Int)) (n2 : Int) (en2 : (N 2 : Int) = n2) (u0_12 : Int) (eu0_12 : F 0 12 = u0_12) (u1_1 : Int) (eu1_1 : F 1 1 = u1_1) (h0 : inr (a1)) (h1 : inr (a2)) (h2 : 0 ≤ (u1_1) ∧ (u1_1) ≤ (n2) ∧ (n2) ≤ 65536 ∧ (u1_1) ≤ 16384) (h3 : (u0_12) ≤ (u1_1)) (h4 : 0 ≤ (a1) ∧ (a1) ≤ (a2) ∧ (a2) ≤ 16384) (k : ∀ (z : Int) (σ : rS) (Fₚ : hF) (Aₚ : hA), HW V128 σ D N Fₚ Aₚ → OUT (V128).length D N σE c s D N σ c s → SF [] F Fₚ → SA [] A Aₚ → (inr (z)) → (0 ≤ (z)) → ((z) = 0 ∨ (a2) + (z) ≤ (u0_12)) → Q (some (I z)) σ c s) : Ew 128 (d + 0) 0 (rargs 0 [.ref (D 0), I a1, I a2]) [] σE c s Q := by
  have O := OUT_refl (n := (V128).length) (D := D) (N := N) (σ := σE) (c := c) (s := s)
  have HE := H
  have r1 : (-2147483648 : Int) ≤ u0_12 ∧ u0_12 ≤ 2147483647 := rngE (show (-2147483648 : Int) ≤ F 0 12 ∧ F 0 12 ≤ 2147483647 from H.krg 0 12 (ltn len_V128_oz_C2cls rfl)) (show F 0 12 = u0_12 from (eu0_12))
  have r2 : (-2147483648 : Int) ≤ u1_1 ∧ u1_1 ≤ 2147483647 := rngE (show (-2147483648 : Int) ≤ F 1 1 ∧ F 1 1 ≤ 2147483647 from H.krg 1 1 (ltn len_V128_oz_C2cls rfl)) (show F 1 1 = u1_1 from (eu1_1))
  have r3 : (0 : Int) ≤ n2 ∧ n2 ≤ 1000000 := nleE (H.nle 2 (ltn len_V128_oz_C2cls rfl)) (show (N 2 : Int) = n2 from en2)
  refine Ew_of (pcₚ := 1) (fun _ => x_iconst rfl) ?_
  refine Ew_of (pcₚ := 2) (fun _ => x_istore_n rfl) ?_
  suffices hl2 : ∀ (m : Nat), ∀ (ls : rO) (σ : rS) (F_2 : hF) (A_2 : hA) (x2_3 : Int), rlook ls 0 = some (.ref (D 0)) → rlook ls 1 = some (I (a1)) → rlook ls 2 = some (I (a2)) → rlook ls 3 = some (I (x2_3)) → HW V128 σ D N F_2 A_2 → OUT (V128).length D N σE c s D N σ c s → SF [] F F_2 → SA [] A A_2 → (inr (x2_3)) → (0 ≤ (x2_3)) → ((x2_3) = 0 ∨ (a2) + (x2_3) ≤ (u0_12)) → ((x2_3) ≤ 16384) → ((u0_12) - (a2) - (x2_3)).toNat = m → Ew 128 (d + 0) 2 ls [] σ c s Q from
    hl2 _ _ _ _ _ (0) (rk_o (rfl) rfl rfl) (rk_o (rfl) rfl rfl) (rk_o (rfl) rfl rfl) (rk_s) H O (SF_refl) (SA_refl)     (show inr (0) from q_20) (show 0 ≤ (0) from q_25) (show (0) = 0 ∨ (a2) + (0) ≤ (u0_12) from q_2660) (show (0) ≤ 16384 from q_2659) rfl
  as_aux_lemma =>
  intro m
  induction m using Nat.strongRecOn with
  | _ m ih2 =>
    intro ls σ F_2 A_2 x2_3 l2_0 l2_1 l2_2 l2_3 H O hS_2 hA_2     j2_0 j2_1 j2_2 j2_3 hm2
    have cF_2 : SF oz_C2clsl_3 F F_2 := SF_trans (SF_refl) hS_2 (any_sub (by decide +kernel))
    have mF_2 := SFm_of cF_2 oz_C2cls_6
    have cA_2 : SA oz_C2clsl_4 A A_2 := SA_trans (SA_refl) hA_2 (any_subA (by decide +kernel))
    have mA_2 := SAm_of cA_2 oz_C2cls_7
    refine Ew_of (pcₚ := 3) (fun _ => x_iload_n rfl l2_2) ?_
    refine Ew_of (pcₚ := 4) (fun _ => x_iload_n rfl l2_3) ?_
    refine w_iadd rfl ?_
    refine Ew_of (pcₚ := 6) (fun _ => x_aload_n rfl l2_0) ?_
    refine v_g H (o := 0) (v := I (u0_12)) rfl rfl rfl rfl rfl (congrArg (fun z : Int => I z) (((mF_2 0 12 rfl).trans (eu0_12)) : F_2 0 12 = u0_12)) ?_
    refine w_icmpge (t := 43) rfl rfl (show inr ((a2 + x2_3)) from q_2661 h4 j2_1 j2_3) (show inr (u0_12) from q_22 r1) (fun b4 => ?_) (fun b4 => ?_)
    · refine Ew_of (pcₚ := 44) (fun _ => x_iload_n rfl l2_3) ?_
      exact w_ireturn rfl (k (x2_3) _ _ _ H O (cF_2) (cA_2) (show inr (x2_3) from j2_0) (show 0 ≤ (x2_3) from j2_1) (show (x2_3) = 0 ∨ a2 + (x2_3) ≤ (u0_12) from j2_2))
    · refine Ew_of (pcₚ := 13) (fun _ => x_aload_n rfl l2_0) ?_
      refine v_g H (o := 0) (v := .ref (D 1)) rfl rfl rfl rfl rfl (vrf ((mF_2 0 0 rfl).trans (pf1))) ?_
      refine v_g H (o := 1) (v := .ref (D 2)) rfl rfl rfl rfl rfl (vrf ((mF_2 1 0 rfl).trans (pf2))) ?_
      refine Ew_of (pcₚ := 20) (fun _ => x_iload_n rfl l2_1) ?_
      refine Ew_of (pcₚ := 21) (fun _ => x_iload_n rfl l2_3) ?_
      refine w_iadd rfl ?_
      refine v_lB H (o := 2) rfl rfl rfl rfl (n := n2) (en2) (show 0 ≤ (a1 + x2_3) ∧ (a1 + x2_3) < n2 from q_2662 b4 h2 h3 h4 j2_1) (fun v5 ev5 qv5 => ?_)
      have ev5 : (A 2) ((a1 + x2_3)) = v5 := (congrFun (funext (mA_2 2 rfl)) ((a1 + x2_3))).symm.trans ev5
      refine Ew_of (pcₚ := 24) (fun _ => x_aload_n rfl l2_0) ?_
      refine v_g H (o := 0) (v := .ref (D 1)) rfl rfl rfl rfl rfl (vrf ((mF_2 0 0 rfl).trans (pf1))) ?_
      refine v_g H (o := 1) (v := .ref (D 2)) rfl rfl rfl rfl rfl (vrf ((mF_2 1 0 rfl).trans (pf2))) ?_
      refine Ew_of (pcₚ := 31) (fun _ => x_iload_n rfl l2_2) ?_
      refine Ew_of (pcₚ := 32) (fun _ => x_iload_n rfl l2_3) ?_
      refine w_iadd rfl ?_
      refine v_lB H (o := 2) rfl rfl rfl rfl (n := n2) (en2) (show 0 ≤ (a2 + x2_3) ∧ (a2 + x2_3) < n2 from q_2663 b4 h2 h3 h4 j2_1) (fun v6 ev6 qv6 => ?_)
      have ev6 : (A 2) ((a2 + x2_3)) = v6 := (congrFun (funext (mA_2 2 rfl)) ((a2 + x2_3))).symm.trans ev6
      refine w_icmpne (t := 43) rfl rfl (show inr (v5) from q_2536 qv5) (show inr (v6) from q_2536 qv6) (fun b7 => ?_) (fun b7 => ?_)
      · refine Ew_of (pcₚ := 44) (fun _ => x_iload_n rfl l2_3) ?_
        exact w_ireturn rfl (k (x2_3) _ _ _ H O (cF_2) (cA_2) (show inr (x2_3) from j2_0) (show 0 ≤ (x2_3) from j2_1) (show (x2_3) = 0 ∨ a2 + (x2_3) ≤ (u0_12) from j2_2))
      · refine Ew_of (pcₚ := 40) (fun _ => x_iinc (len := 3) rfl (l2_3)) ?_
        refine Ew_of (pcₚ := 2) (fun _ => x_goto rfl rfl) ?_
        exact ih2 _ (msE hm2 q_328 (q_626 b4)) _ _ _ _ ((x2_3 + 1)) (rk_o (l2_0) rfl rfl) (rk_o (l2_1) rfl rfl) (rk_o (l2_2) rfl rfl) (rk_s) H O (hS_2) (hA_2)     (show inr ((x2_3 + 1)) from q_2666 j2_1 j2_3) (show 0 ≤ ((x2_3 + 1)) from q_29 j2_1) (show ((x2_3 + 1)) = 0 ∨ (a2) + ((x2_3 + 1)) ≤ (u0_12) from q_2665 b4) (show ((x2_3 + 1)) ≤ 16384 from q_2664 b4 h2 h3 h4) rfl
abbrev V129 : vV := [(0, 5, [(4, 0), (4, 0), (4, 0), (4, 0), (0, 0), (0, 0), (0, 0), (4, 0), (4, 0), (0, 0), (0, 0), (0, 0), (0, 0), (0, 0), (0, 0), (0, 0), (0, 0), (0, 0), (0, 0)]), (0, 7, [(4, 0), (0, 0), (1, 0), (0, 0), (0, 0)]), (1, 0, []), (1, 1, [])]
theorem len_V129_oz_C2cls : (V129).length = 4 := by decide +kernel
theorem oz_C2cls_9 : vsub V129 V128 [0, 1, 2] = true := by decide +kernel
def oz_C2clsl_5 : List (Nat × Nat) := [(0, 14), (0, 15)]
theorem oz_C2cls_10 : (oz_C2clsl_5).all (fun p => !tbz 49152 (Nat.add (Nat.mul 32 p.1) p.2)) = true := by decide +kernel
/-- Finder.nearest: this, this.data, this.data.bytes, this.back -/
theorem C129 {σE : rS} {D N : Nat → Nat} {F : hF} {A : hA} {d c s : Nat} {Q : wQ} (H : HW V129 σE D N F A) {a1 a2 : Int} (pf1 : F 0 0 = (D 1 : Int)) (pf2 : F 1 0 = (D 2 : Int)) (pf3 : F 0 8 = (D 3 : Int)) (n2 : Int) (en2 : (N 2 : Int) = n2) (n3 : Int) (en3 : (N 3 : Int) = n3) (u0_6 : Int) (eu0_6 : F 0 6 = u0_6) (u0_10 : Int) (eu0_10 : F 0 10 = u0_10) (u0_12 : Int) (eu0_12 : F 0 12 = u0_12) (u0_14 : Int) (eu0_14 : F 0 14 = u0_14) (u0_15 : Int) (eu0_15 : F 0 15 = u0_15) (u1_1 : Int) (eu1_1 : F 1 1 = u1_1) (w2 : Int → Int) (ew2 : A 2 = w2) (w3 : Int → Int) (ew3 : A 3 = w3) (h0 : inr (a1)) (h1 : inr (a2)) (h2 : 0 ≤ (u1_1) ∧ (u1_1) ≤ (n2) ∧ (n2) ≤ 65536 ∧ (u1_1) ≤ 16384) (h3 : (u0_12) ≤ (u1_1)) (h4 : 1 ≤ (u0_10) ∧ (u0_10) ≤ 8) (h5 : 0 ≤ (a1) ∧ (a1) < (u0_6)) (h6 : (u0_6) ≤ (n3) ∧ (n3) ≤ 16384) (h7 : BKI ((w2)) ((w3)) ((u0_10)) ((u0_6))) (h8 : 1 ≤ (a2)) (k : ∀ (z : Int) (σ : rS) (Fₚ : hF) (Aₚ : hA), HW V129 σ D N Fₚ Aₚ → OUT (V129).length D N σE c s D N σ c s → SF [(0, 14), (0, 15)] F Fₚ → SA [] A Aₚ → ∀ y0_14 : Int, Fₚ 0 14 = y0_14 → ∀ y0_15 : Int, Fₚ 0 15 = y0_15 → ((z) = 0 ∨ (z) = 1) → ((z) = 1 → (a2) ≤ (y0_14) ∧ (a1) + (y0_14) ≤ (u0_12) ∧ 1 ≤ (y0_15) ∧ (y0_15) ≤ (a1)) → Q (some (I z)) σ c s) : Ew 129 (d + 1) 0 (rargs 0 [.ref (D 0), I a1, I a2]) [] σE c s Q := by
  have O := OUT_refl (n := (V129).length) (D := D) (N := N) (σ := σE) (c := c) (s := s)
  have HE := H
  have r1 : (-2147483648 : Int) ≤ u0_6 ∧ u0_6 ≤ 2147483647 := rngE (show (-2147483648 : Int) ≤ F 0 6 ∧ F 0 6 ≤ 2147483647 from H.krg 0 6 (ltn len_V129_oz_C2cls rfl)) (show F 0 6 = u0_6 from (eu0_6))
  have r2 : (-2147483648 : Int) ≤ u0_10 ∧ u0_10 ≤ 2147483647 := rngE (show (-2147483648 : Int) ≤ F 0 10 ∧ F 0 10 ≤ 2147483647 from H.krg 0 10 (ltn len_V129_oz_C2cls rfl)) (show F 0 10 = u0_10 from (eu0_10))
  have r3 : (-2147483648 : Int) ≤ u0_12 ∧ u0_12 ≤ 2147483647 := rngE (show (-2147483648 : Int) ≤ F 0 12 ∧ F 0 12 ≤ 2147483647 from H.krg 0 12 (ltn len_V129_oz_C2cls rfl)) (show F 0 12 = u0_12 from (eu0_12))
  have r4 : (-2147483648 : Int) ≤ u0_14 ∧ u0_14 ≤ 2147483647 := rngE (show (-2147483648 : Int) ≤ F 0 14 ∧ F 0 14 ≤ 2147483647 from H.krg 0 14 (ltn len_V129_oz_C2cls rfl)) (show F 0 14 = u0_14 from (eu0_14))
  have r5 : (-2147483648 : Int) ≤ u0_15 ∧ u0_15 ≤ 2147483647 := rngE (show (-2147483648 : Int) ≤ F 0 15 ∧ F 0 15 ≤ 2147483647 from H.krg 0 15 (ltn len_V129_oz_C2cls rfl)) (show F 0 15 = u0_15 from (eu0_15))
  have r6 : (-2147483648 : Int) ≤ u1_1 ∧ u1_1 ≤ 2147483647 := rngE (show (-2147483648 : Int) ≤ F 1 1 ∧ F 1 1 ≤ 2147483647 from H.krg 1 1 (ltn len_V129_oz_C2cls rfl)) (show F 1 1 = u1_1 from (eu1_1))
  have r7 : (0 : Int) ≤ n2 ∧ n2 ≤ 1000000 := nleE (H.nle 2 (ltn len_V129_oz_C2cls rfl)) (show (N 2 : Int) = n2 from en2)
  have r8 : (0 : Int) ≤ n3 ∧ n3 ≤ 1000000 := nleE (H.nle 3 (ltn len_V129_oz_C2cls rfl)) (show (N 3 : Int) = n3 from en3)
  have hbk : BKI ((w2)) ((w3)) ((u0_10)) ((u0_6)) := h7
  refine Ew_of (pcₚ := 1) (fun _ => x_aload_n rfl rfl) ?_
  refine v_g H (o := 0) (v := .ref (D 3)) rfl rfl rfl rfl rfl (vrf (pf3)) ?_
  refine Ew_of (pcₚ := 5) (fun _ => x_iload_n rfl rfl) ?_
  refine v_lI H (o := 3) rfl rfl rfl rfl (n := n3) (en3) (show 0 ≤ a1 ∧ a1 < n3 from q_2667 h5 h6) (fun v9 ev9 qv9 => ?_)
  have ev9 : (w3) (a1) = v9 := (congrFun (ew3) (a1)).symm.trans ev9
  have hb6 := hbk ((a1)) (by omega) (by omega)
  rw [ev9] at hb6
  have hb7 : -1 ≤ (v9) ∧ (v9) < (a1) := ⟨hb6.1, hb6.2.1⟩
  clear hb6
  refine Ew_of (pcₚ := 7) (fun _ => x_istore_n rfl) ?_
  refine Ew_of (pcₚ := 8) (fun _ => x_iconst rfl) ?_
  refine Ew_of (pcₚ := 10) (fun _ => x_istore rfl) ?_
  suffices hl10 : ∀ (m : Nat), ∀ (ls : rO) (σ : rS) (F_10 : hF) (A_10 : hA) (x10_3 : Int) (x10_4 : Int), rlook ls 0 = some (.ref (D 0)) → rlook ls 1 = some (I (a1)) → rlook ls 2 = some (I (a2)) → rlook ls 3 = some (I (x10_3)) → rlook ls 4 = some (I (x10_4)) → HW V129 σ D N F_10 A_10 → OUT (V129).length D N σE c s D N σ c s → SF [] F F_10 → SA [] A A_10 → (inr (x10_3)) → (inr (x10_4)) → ((0) ≤ (x10_4)) → ((x10_4) ≤ (0) ∨ (x10_4) ≤ ((a1))) → (-1 ≤ (x10_3) ∧ (x10_3) < (a1)) → (((a1)) - (x10_4)).toNat = m → Ew 129 (d + 1) 10 ls [] σ c s Q from
    hl10 _ _ _ _ _ (v9) (0) (rk_o (rk_o (rfl) rfl rfl) rfl rfl) (rk_o (rk_o (rfl) rfl rfl) rfl rfl) (rk_o (rk_o (rfl) rfl rfl) rfl rfl) (rk_o (rk_s) rfl rfl) (rk_s) H O (SF_refl) (SA_refl)     (show inr (v9) from qv9) (show inr (0) from q_20) (show (0) ≤ (0) from q_25) (show (0) ≤ (0) ∨ (0) ≤ ((a1)) from q_24) (show -1 ≤ (v9) ∧ (v9) < (a1) from hb7) rfl
  as_aux_lemma =>
  intro m
  induction m using Nat.strongRecOn with
  | _ m ih10 =>
    intro ls σ F_10 A_10 x10_3 x10_4 l10_0 l10_1 l10_2 l10_3 l10_4 H O hS_10 hA_10     j10_0 j10_1 j10_2 j10_3 j10_4 hm10
    have cF_10 : SF oz_C2clsl_5 F F_10 := SF_trans (SF_refl) hS_10 (any_sub (by decide +kernel))
    have mF_10 := SFm_of cF_10 oz_C2cls_10
    have cA_10 : SA oz_C2clsl_4 A A_10 := SA_trans (SA_refl) hA_10 (any_subA (by decide +kernel))
    have mA_10 := SAm_of cA_10 oz_C2cls_7
    refine Ew_of (pcₚ := 12) (fun _ => x_iload rfl l10_4) ?_
    refine Ew_of (pcₚ := 13) (fun _ => x_iload_n rfl l10_1) ?_
    refine w_icmpge (t := 72) rfl rfl (show inr (x10_4) from j10_1) (show inr (a1) from h0) (fun b10 => ?_) (fun b10 => ?_)
    · refine Ew_of (pcₚ := 73) (fun _ => x_iconst rfl) ?_
      exact w_ireturn rfl (k (0) _ _ _ H O (cF_10) (cA_10) (u0_14) (((hS_10 0 14 rfl).trans (eu0_14))) (u0_15) (((hS_10 0 15 rfl).trans (eu0_15))) (show (0) = 0 ∨ (0) = 1 by first | exact q_1 | omega) (show (0) = 1 → a2 ≤ (u0_14) ∧ a1 + (u0_14) ≤ (u0_12) ∧ 1 ≤ (u0_15) ∧ (u0_15) ≤ a1 by first | exact q_2668 h0 h1 h5 r3 r4 r5 | omega))
    · refine Ew_of (pcₚ := 17) (fun _ => x_iload_n rfl l10_3) ?_
      refine w_iflt (t := 72) rfl rfl (show inr (x10_3) from j10_0) (fun b11 => ?_) (fun b11 => ?_)
      · refine Ew_of (pcₚ := 73) (fun _ => x_iconst rfl) ?_
        exact w_ireturn rfl (k (0) _ _ _ H O (cF_10) (cA_10) (u0_14) (((hS_10 0 14 rfl).trans (eu0_14))) (u0_15) (((hS_10 0 15 rfl).trans (eu0_15))) (show (0) = 0 ∨ (0) = 1 by first | exact q_1 | omega) (show (0) = 1 → a2 ≤ (u0_14) ∧ a1 + (u0_14) ≤ (u0_12) ∧ 1 ≤ (u0_15) ∧ (u0_15) ≤ a1 by first | exact q_2668 h0 h1 h5 r3 r4 r5 | omega))
      · refine Ew_of (pcₚ := 21) (fun _ => x_iload_n rfl l10_1) ?_
        refine Ew_of (pcₚ := 22) (fun _ => x_iload_n rfl l10_3) ?_
        refine w_isub rfl ?_
        refine Ew_of (pcₚ := 24) (fun _ => x_aload_n rfl l10_0) ?_
        have r12 : (-2147483648 : Int) ≤ F 0 11 ∧ F 0 11 ≤ 2147483647 := rngE (show (-2147483648 : Int) ≤ F_10 0 11 ∧ F_10 0 11 ≤ 2147483647 from H.krg 0 11 (ltn len_V129_oz_C2cls rfl)) (show F_10 0 11 = F 0 11 from (mF_10 0 11 rfl))
        refine v_g H (o := 0) (v := I (F 0 11)) rfl rfl rfl rfl rfl (congrArg (fun z : Int => I z) ((mF_10 0 11 rfl) : F_10 0 11 = F 0 11)) ?_
        refine w_icmpgt (t := 72) rfl rfl (show inr ((a1 - x10_3)) from q_1722 b11 h0 j10_4) (show inr (F 0 11) from q_22 r12) (fun b13 => ?_) (fun b13 => ?_)
        · refine Ew_of (pcₚ := 73) (fun _ => x_iconst rfl) ?_
          exact w_ireturn rfl (k (0) _ _ _ H O (cF_10) (cA_10) (u0_14) (((hS_10 0 14 rfl).trans (eu0_14))) (u0_15) (((hS_10 0 15 rfl).trans (eu0_15))) (show (0) = 0 ∨ (0) = 1 by first | exact q_1 | omega) (show (0) = 1 → a2 ≤ (u0_14) ∧ a1 + (u0_14) ≤ (u0_12) ∧ 1 ≤ (u0_15) ∧ (u0_15) ≤ a1 by first | exact q_2668 h0 h1 h5 r3 r4 r5 | omega))
        · refine Ew_of (pcₚ := 31) (fun _ => x_aload_n rfl l10_0) ?_
          refine Ew_of (pcₚ := 32) (fun _ => x_iload_n rfl l10_3) ?_
          refine Ew_of (pcₚ := 33) (fun _ => x_iload_n rfl l10_1) ?_
          refine v_inv H (o := 0) rfl rfl rfl rfl rfl rfl (by rfl) (C128 (D := puc 524800 D) (N := puc 524800 N) (HW_subc H oz_C2cls_9 oz_C2cls_4) ((mF_10 0 0 rfl).trans (pf1)) ((mF_10 1 0 rfl).trans (pf2)) (n2) (en2) (u0_12) (((mF_10 0 12 rfl).trans (eu0_12))) (u1_1) (((mF_10 1 1 rfl).trans (eu1_1))) (show inr (x10_3) from j10_0) (show inr (a1) from h0) (show 0 ≤ (u1_1) ∧ (u1_1) ≤ (n2) ∧ (n2) ≤ 65536 ∧ (u1_1) ≤ 16384 from h2) (show (u0_12) ≤ (u1_1) from h3) (show 0 ≤ (x10_3) ∧ (x10_3) ≤ (a1) ∧ (a1) ≤ 16384 from q_2669 b11 h5 h6 j10_4) (fun z14 σ14 F14ₚ A14ₚ Hₚ Oₚ hS14 hA14 pz14_0 pz14_1 pz14_2 => ⟨rfl, ?_⟩))
          refine v_backc (c := c) (s := s) H oz_C2cls_9 oz_C2cls_4 Hₚ Oₚ (fun F14 A14 H Oₚ eF14 eA14 => ?_)
          have O := OUT_trans O Oₚ
          -- Finder.common
          have cF14 : SF oz_C2clsl_5 F F14 := SF_trans (cF_10) (SF_gluc (ι := oz_C2clsl_2) oz_C2cls_4 hS14 eF14 (by decide +kernel)) (any_sub (lₚ := []) (by decide +kernel))
          have mF14 := SFm_of cF14 oz_C2cls_10
          have cA14 : SA oz_C2clsl_4 A A14 := SA_trans (cA_10) (SA_gluc (ι := oz_C2clsl_2) oz_C2cls_4 hA14 eA14 (by decide +kernel)) (any_subA (lₚ := []) (by decide +kernel))
          have mA14 := SAm_of cA14 oz_C2cls_7
          refine Ew_of (pcₚ := 38) (fun _ => x_istore rfl) ?_
          refine Ew_of (pcₚ := 40) (fun _ => x_iload rfl rk_s) ?_
          refine Ew_of (pcₚ := 41) (fun _ => x_iload_n rfl (rk_o (l10_2) rfl rfl)) ?_
          refine w_icmplt (t := 59) rfl rfl (show inr (z14) from pz14_0) (show inr (a2) from h1) (fun b15 => ?_) (fun b15 => ?_)
          · refine Ew_of (pcₚ := 60) (fun _ => x_aload_n rfl (rk_o (l10_0) rfl rfl)) ?_
            refine v_g H (o := 0) (v := .ref (D 3)) rfl rfl rfl rfl rfl (vrf ((mF14 0 8 rfl).trans (pf3))) ?_
            refine Ew_of (pcₚ := 64) (fun _ => x_iload_n rfl (rk_o (l10_3) rfl rfl)) ?_
            refine v_lI H (o := 3) rfl rfl rfl rfl (n := n3) (en3) (show 0 ≤ x10_3 ∧ x10_3 < n3 from q_2670 b11 h5 h6 j10_4) (fun v16 ev16 qv16 => ?_)
            have ev16 : (w3) (x10_3) = v16 := (congrFun ((funext (mA14 3 rfl)).trans (ew3)) (x10_3)).symm.trans ev16
            have hb6 := hbk ((x10_3)) (by omega) (by omega)
            rw [ev16] at hb6
            have hb7 : -1 ≤ (v16) ∧ (v16) < (x10_3) := ⟨hb6.1, hb6.2.1⟩
            clear hb6
            refine Ew_of (pcₚ := 66) (fun _ => x_istore_n rfl) ?_
            refine Ew_of (pcₚ := 69) (fun _ => x_iinc (len := 3) rfl (rk_o (rk_o (l10_4) rfl rfl) rfl rfl)) ?_
            refine Ew_of (pcₚ := 10) (fun _ => x_goto rfl rfl) ?_
            exact ih10 _ (msE hm10 q_31 (q_34 b10)) _ _ _ _ (v16) ((x10_4 + 1)) (rk_o (rk_o (rk_o (l10_0) rfl rfl) rfl rfl) rfl rfl) (rk_o (rk_o (rk_o (l10_1) rfl rfl) rfl rfl) rfl rfl) (rk_o (rk_o (rk_o (l10_2) rfl rfl) rfl rfl) rfl rfl) (rk_o (rk_s) rfl rfl) (rk_s) H O (SF_trans (hS_10) (SF_gluc (ι := oz_C2clsl_2) oz_C2cls_4 hS14 eF14 (by decide +kernel)) (any_sub (lₚ := []) (by decide +kernel))) (SA_trans (hA_10) (SA_gluc (ι := oz_C2clsl_2) oz_C2cls_4 hA14 eA14 (by decide +kernel)) (any_subA (lₚ := []) (by decide +kernel)))     (show inr (v16) from qv16) (show inr ((x10_4 + 1)) from q_2672 b10 h5 h6 j10_2) (show (0) ≤ ((x10_4 + 1)) from q_29 j10_2) (show ((x10_4 + 1)) ≤ (0) ∨ ((x10_4 + 1)) ≤ ((a1)) from q_33 b10) (show -1 ≤ (v16) ∧ (v16) < (a1) from q_2671 hb7 j10_4) rfl
          · refine Ew_of (pcₚ := 45) (fun _ => x_aload_n rfl (rk_o (l10_0) rfl rfl)) ?_
            refine Ew_of (pcₚ := 47) (fun _ => x_iload rfl rk_s) ?_
            refine v_p H (o := 0) (z := z14) (v := I (z14)) rfl rfl rfl rfl rfl rfl rfl rfl (show (-2147483648 : Int) ≤ z14 ∧ z14 ≤ 2147483647 from q_2673 pz14_0 pz14_1) (fun σ H Oₚ => ?_)
            have O := OUT_trans O Oₚ
            have cFu17 : SF oz_C2clsl_5 F (updF F14 0 14 (z14)) := SF_upd (cF14) rfl
            have mFu17 := SFm_of cFu17 oz_C2cls_10
            refine Ew_of (pcₚ := 51) (fun _ => x_aload_n rfl (rk_o (l10_0) rfl rfl)) ?_
            refine Ew_of (pcₚ := 52) (fun _ => x_iload_n rfl (rk_o (l10_1) rfl rfl)) ?_
            refine Ew_of (pcₚ := 53) (fun _ => x_iload_n rfl (rk_o (l10_3) rfl rfl)) ?_
            refine w_isub rfl ?_
            refine v_p H (o := 0) (z := (a1 - x10_3)) (v := I ((a1 - x10_3))) rfl rfl rfl rfl rfl rfl rfl rfl (show (-2147483648 : Int) ≤ (a1 - x10_3) ∧ (a1 - x10_3) ≤ 2147483647 from q_2674 b11 h0 j10_4) (fun σ H Oₚ => ?_)
            have O := OUT_trans O Oₚ
            have cFu18 : SF oz_C2clsl_5 F (updF (updF F14 0 14 (z14)) 0 15 ((a1 - x10_3))) := SF_upd (cFu17) rfl
            have mFu18 := SFm_of cFu18 oz_C2cls_10
            refine Ew_of (pcₚ := 58) (fun _ => x_iconst rfl) ?_
            exact w_ireturn rfl (k (1) _ _ _ H O (cFu18) (cA14) (z14) (rfl) ((a1 - x10_3)) (rfl) (show (1) = 0 ∨ (1) = 1 by first | exact q_5 | omega) (show (1) = 1 → a2 ≤ (z14) ∧ a1 + (z14) ≤ (u0_12) ∧ 1 ≤ ((a1 - x10_3)) ∧ ((a1 - x10_3)) ≤ a1 by first | exact q_2675 b11 b15 h5 h6 h8 j10_4 pz14_2 r3 | omega))
abbrev V130 : vV := [(0, 5, [(4, 0), (4, 0), (4, 0), (4, 0), (0, 0), (0, 0), (0, 0), (4, 0), (4, 0), (0, 0), (0, 0), (0, 0), (0, 0), (0, 0), (0, 0), (0, 0), (0, 0), (0, 0), (0, 0)]), (0, 7, [(4, 0), (0, 0), (1, 0), (0, 0), (0, 0)]), (1, 0, []), (1, 1, [])]
theorem len_V130_oz_C2cls : (V130).length = 4 := by decide +kernel
theorem oz_C2cls_12 : vsub V130 V128 [0, 1, 2] = true := by decide +kernel
/-- Finder.longest: this, this.data, this.data.bytes, this.back -/
theorem C130 {σE : rS} {D N : Nat → Nat} {F : hF} {A : hA} {d c s : Nat} {Q : wQ} (H : HW V130 σE D N F A) {a1 : Int} (pf1 : F 0 0 = (D 1 : Int)) (pf2 : F 1 0 = (D 2 : Int)) (pf3 : F 0 8 = (D 3 : Int)) (n2 : Int) (en2 : (N 2 : Int) = n2) (n3 : Int) (en3 : (N 3 : Int) = n3) (u0_6 : Int) (eu0_6 : F 0 6 = u0_6) (u0_10 : Int) (eu0_10 : F 0 10 = u0_10) (u0_12 : Int) (eu0_12 : F 0 12 = u0_12) (u0_14 : Int) (eu0_14 : F 0 14 = u0_14) (u0_15 : Int) (eu0_15 : F 0 15 = u0_15) (u0_16 : Int) (eu0_16 : F 0 16 = u0_16) (u0_17 : Int) (eu0_17 : F 0 17 = u0_17) (u0_18 : Int) (eu0_18 : F 0 18 = u0_18) (u1_1 : Int) (eu1_1 : F 1 1 = u1_1) (w2 : Int → Int) (ew2 : A 2 = w2) (w3 : Int → Int) (ew3 : A 3 = w3) (h0 : inr (a1)) (h1 : 0 ≤ (u1_1) ∧ (u1_1) ≤ (n2) ∧ (n2) ≤ 65536 ∧ (u1_1) ≤ 16384) (h2 : (u0_12) ≤ (u1_1)) (h3 : 1 ≤ (u0_10) ∧ (u0_10) ≤ 8) (h4 : 0 ≤ (a1) ∧ (a1) < (u0_6)) (h5 : (u0_6) ≤ (n3) ∧ (n3) ≤ 16384) (h6 : BKI ((w2)) ((w3)) ((u0_10)) ((u0_6))) (h7 : (u0_16) = -1 ∨ (u0_17) = 0 ∨ (u0_10) ≤ (u0_17) ∧ (u0_16) + (u0_17) ≤ (u0_12) ∧ 1 ≤ (u0_18) ∧ (u0_18) ≤ (u0_16)) (k : ∀ (σ : rS) (Fₚ : hF) (Aₚ : hA), HW V130 σ D N Fₚ Aₚ → OUT (V130).length D N σE c s D N σ c s → SF [(0, 14), (0, 15)] F Fₚ → SA [] A Aₚ → ∀ y0_14 : Int, Fₚ 0 14 = y0_14 → ∀ y0_15 : Int, Fₚ 0 15 = y0_15 → ((y0_14) = 0 ∨ (u0_10) ≤ (y0_14) ∧ (a1) + (y0_14) ≤ (u0_12) ∧ 1 ≤ (y0_15) ∧ (y0_15) ≤ (a1)) → Q none σ c s) : Ew 130 (d + 1) 0 (rargs 0 [.ref (D 0), I a1]) [] σE c s Q := by
  have O := OUT_refl (n := (V130).length) (D := D) (N := N) (σ := σE) (c := c) (s := s)
  have HE := H
  have r1 : (-2147483648 : Int) ≤ u0_6 ∧ u0_6 ≤ 2147483647 := rngE (show (-2147483648 : Int) ≤ F 0 6 ∧ F 0 6 ≤ 2147483647 from H.krg 0 6 (ltn len_V130_oz_C2cls rfl)) (show F 0 6 = u0_6 from (eu0_6))
  have r2 : (-2147483648 : Int) ≤ u0_10 ∧ u0_10 ≤ 2147483647 := rngE (show (-2147483648 : Int) ≤ F 0 10 ∧ F 0 10 ≤ 2147483647 from H.krg 0 10 (ltn len_V130_oz_C2cls rfl)) (show F 0 10 = u0_10 from (eu0_10))
  have r3 : (-2147483648 : Int) ≤ u0_12 ∧ u0_12 ≤ 2147483647 := rngE (show (-2147483648 : Int) ≤ F 0 12 ∧ F 0 12 ≤ 2147483647 from H.krg 0 12 (ltn len_V130_oz_C2cls rfl)) (show F 0 12 = u0_12 from (eu0_12))
  have r4 : (-2147483648 : Int) ≤ u0_14 ∧ u0_14 ≤ 2147483647 := rngE (show (-2147483648 : Int) ≤ F 0 14 ∧ F 0 14 ≤ 2147483647 from H.krg 0 14 (ltn len_V130_oz_C2cls rfl)) (show F 0 14 = u0_14 from (eu0_14))
  have r5 : (-2147483648 : Int) ≤ u0_15 ∧ u0_15 ≤ 2147483647 := rngE (show (-2147483648 : Int) ≤ F 0 15 ∧ F 0 15 ≤ 2147483647 from H.krg 0 15 (ltn len_V130_oz_C2cls rfl)) (show F 0 15 = u0_15 from (eu0_15))
  have r6 : (-2147483648 : Int) ≤ u0_16 ∧ u0_16 ≤ 2147483647 := rngE (show (-2147483648 : Int) ≤ F 0 16 ∧ F 0 16 ≤ 2147483647 from H.krg 0 16 (ltn len_V130_oz_C2cls rfl)) (show F 0 16 = u0_16 from (eu0_16))
  have r7 : (-2147483648 : Int) ≤ u0_17 ∧ u0_17 ≤ 2147483647 := rngE (show (-2147483648 : Int) ≤ F 0 17 ∧ F 0 17 ≤ 2147483647 from H.krg 0 17 (ltn len_V130_oz_C2cls rfl)) (show F 0 17 = u0_17 from (eu0_17))
  have r8 : (-2147483648 : Int) ≤ u0_18 ∧ u0_18 ≤ 2147483647 := rngE (show (-2147483648 : Int) ≤ F 0 18 ∧ F 0 18 ≤ 2147483647 from H.krg 0 18 (ltn len_V130_oz_C2cls rfl)) (show F 0 18 = u0_18 from (eu0_18))
  have r9 : (-2147483648 : Int) ≤ u1_1 ∧ u1_1 ≤ 2147483647 := rngE (show (-2147483648 : Int) ≤ F 1 1 ∧ F 1 1 ≤ 2147483647 from H.krg 1 1 (ltn len_V130_oz_C2cls rfl)) (show F 1 1 = u1_1 from (eu1_1))
  have r10 : (0 : Int) ≤ n2 ∧ n2 ≤ 1000000 := nleE (H.nle 2 (ltn len_V130_oz_C2cls rfl)) (show (N 2 : Int) = n2 from en2)
  have r11 : (0 : Int) ≤ n3 ∧ n3 ≤ 1000000 := nleE (H.nle 3 (ltn len_V130_oz_C2cls rfl)) (show (N 3 : Int) = n3 from en3)
  have hbk : BKI ((w2)) ((w3)) ((u0_10)) ((u0_6)) := h6
  refine Ew_of (pcₚ := 1) (fun _ => x_iload_n rfl rfl) ?_
  refine Ew_of (pcₚ := 2) (fun _ => x_aload_n rfl rfl) ?_
  refine v_g H (o := 0) (v := I (u0_16)) rfl rfl rfl rfl rfl (congrArg (fun z : Int => I z) ((eu0_16) : F 0 16 = u0_16)) ?_
  refine w_icmpne (t := 25) rfl rfl (show inr (a1) from h0) (show inr (u0_16) from q_22 r6) (fun b12 => ?_) (fun b12 => ?_)
  · refine Ew_of (pcₚ := 26) (fun _ => x_aload_n rfl rfl) ?_
    refine Ew_of (pcₚ := 27) (fun _ => x_iconst rfl) ?_
    refine v_p H (o := 0) (z := 0) (v := I (0)) rfl rfl rfl rfl rfl rfl rfl rfl (show (-2147483648 : Int) ≤ 0 ∧ 0 ≤ 2147483647 from q_240) (fun σ H Oₚ => ?_)
    have O := OUT_trans O Oₚ
    have cFu13 : SF oz_C2clsl_5 F (updF F 0 14 (0)) := SF_upd (SF_refl) rfl
    have mFu13 := SFm_of cFu13 oz_C2cls_10
    refine Ew_of (pcₚ := 31) (fun _ => x_aload_n rfl rfl) ?_
    refine Ew_of (pcₚ := 32) (fun _ => x_iconst rfl) ?_
    refine v_p H (o := 0) (z := 0) (v := I (0)) rfl rfl rfl rfl rfl rfl rfl rfl (show (-2147483648 : Int) ≤ 0 ∧ 0 ≤ 2147483647 from q_240) (fun σ H Oₚ => ?_)
    have O := OUT_trans O Oₚ
    have cFu14 : SF oz_C2clsl_5 F (updF (updF F 0 14 (0)) 0 15 (0)) := SF_upd (cFu13) rfl
    have mFu14 := SFm_of cFu14 oz_C2cls_10
    refine Ew_of (pcₚ := 36) (fun _ => x_aload_n rfl rfl) ?_
    refine v_g H (o := 0) (v := .ref (D 3)) rfl rfl rfl rfl rfl (vrf ((mFu14 0 8 rfl).trans (pf3))) ?_
    refine Ew_of (pcₚ := 40) (fun _ => x_iload_n rfl rfl) ?_
    refine v_lI H (o := 3) rfl rfl rfl rfl (n := n3) (en3) (show 0 ≤ a1 ∧ a1 < n3 from q_2667 h4 h5) (fun v15 ev15 qv15 => ?_)
    have ev15 : (w3) (a1) = v15 := (congrFun (ew3) (a1)).symm.trans ev15
    have hb6 := hbk ((a1)) (by omega) (by omega)
    rw [ev15] at hb6
    have hb7 : -1 ≤ (v15) ∧ (v15) < (a1) := ⟨hb6.1, hb6.2.1⟩
    clear hb6
    refine Ew_of (pcₚ := 42) (fun _ => x_istore_n rfl) ?_
    refine Ew_of (pcₚ := 43) (fun _ => x_iconst rfl) ?_
    refine Ew_of (pcₚ := 44) (fun _ => x_istore_n rfl) ?_
    suffices hl44 : ∀ (m : Nat), ∀ (ls : rO) (σ : rS) (F_44 : hF) (A_44 : hA) (x44_2 : Int) (x44_3 : Int), rlook ls 0 = some (.ref (D 0)) → rlook ls 1 = some (I (a1)) → rlook ls 2 = some (I (x44_2)) → rlook ls 3 = some (I (x44_3)) → HW V130 σ D N F_44 A_44 → OUT (V130).length D N σE c s D N σ c s → SF [(0, 14), (0, 15)] (updF (updF F 0 14 (0)) 0 15 (0)) F_44 → SA [] A A_44 → ∀ y44_0_14 : Int, F_44 0 14 = y44_0_14 → ∀ y44_0_15 : Int, F_44 0 15 = y44_0_15 → (inr (x44_2)) → (inr (x44_3)) → ((0) ≤ (x44_3)) → ((x44_3) ≤ (0) ∨ (x44_3) ≤ ((a1))) → (-1 ≤ (x44_2) ∧ (x44_2) < (a1)) → ((y44_0_14) = 0 ∨ (u0_10) ≤ (y44_0_14) ∧ (a1) + (y44_0_14) ≤ (u0_12) ∧ 1 ≤ (y44_0_15) ∧ (y44_0_15) ≤ (a1)) → ((y44_0_14) ≤ 16384) → (((a1)) - (x44_3)).toNat = m → Ew 130 (d + 1) 44 ls [] σ c s Q from
      hl44 _ _ _ _ _ (v15) (0) (rk_o (rk_o (rfl) rfl rfl) rfl rfl) (rk_o (rk_o (rfl) rfl rfl) rfl rfl) (rk_o (rk_s) rfl rfl) (rk_s) H O (SF_refl) (SA_refl)   (0) (rfl) (0) (rfl)  (show inr (v15) from qv15) (show inr (0) from q_20) (show (0) ≤ (0) from q_25) (show (0) ≤ (0) ∨ (0) ≤ ((a1)) from q_24) (show -1 ≤ (v15) ∧ (v15) < (a1) from hb7) (show (0) = 0 ∨ (u0_10) ≤ (0) ∧ (a1) + (0) ≤ (u0_12) ∧ 1 ≤ (0) ∧ (0) ≤ (a1) from q_2676) (show (0) ≤ 16384 from q_2659) rfl
    as_aux_lemma =>
    intro m
    induction m using Nat.strongRecOn with
    | _ m ih44 =>
      intro ls σ F_44 A_44 x44_2 x44_3 l44_0 l44_1 l44_2 l44_3 H O hS_44 hA_44   y44_0_14 ey44_0_14 y44_0_15 ey44_0_15  j44_0 j44_1 j44_2 j44_3 j44_4 j44_5 j44_6 hm44
      have cF_44 : SF oz_C2clsl_5 F F_44 := SF_trans (cFu14) hS_44 (any_sub (by decide +kernel))
      have mF_44 := SFm_of cF_44 oz_C2cls_10
      have cA_44 : SA oz_C2clsl_4 A A_44 := SA_trans (SA_refl) hA_44 (any_subA (by decide +kernel))
      have mA_44 := SAm_of cA_44 oz_C2cls_7
      have r16 : (-2147483648 : Int) ≤ y44_0_14 ∧ y44_0_14 ≤ 2147483647 := rngE (show (-2147483648 : Int) ≤ F_44 0 14 ∧ F_44 0 14 ≤ 2147483647 from H.krg 0 14 (ltn len_V130_oz_C2cls rfl)) (show F_44 0 14 = y44_0_14 from (ey44_0_14))
      have r17 : (-2147483648 : Int) ≤ y44_0_15 ∧ y44_0_15 ≤ 2147483647 := rngE (show (-2147483648 : Int) ≤ F_44 0 15 ∧ F_44 0 15 ≤ 2147483647 from H.krg 0 15 (ltn len_V130_oz_C2cls rfl)) (show F_44 0 15 = y44_0_15 from (ey44_0_15))
      refine Ew_of (pcₚ := 45) (fun _ => x_iload_n rfl l44_3) ?_
      refine Ew_of (pcₚ := 46) (fun _ => x_iload_n rfl l44_1) ?_
      refine w_icmpge (t := 159) rfl rfl (show inr (x44_3) from j44_1) (show inr (a1) from h0) (fun b18 => ?_) (fun b18 => ?_)
      · exact w_ret rfl (k _ _ _ H O (cF_44) (cA_44) (y44_0_14) ((ey44_0_14)) (y44_0_15) ((ey44_0_15)) (show (y44_0_14) = 0 ∨ (u0_10) ≤ (y44_0_14) ∧ a1 + (y44_0_14) ≤ (u0_12) ∧ 1 ≤ (y44_0_15) ∧ (y44_0_15) ≤ a1 from j44_5))
      · refine Ew_of (pcₚ := 50) (fun _ => x_iload_n rfl l44_2) ?_
        refine w_iflt (t := 159) rfl rfl (show inr (x44_2) from j44_0) (fun b19 => ?_) (fun b19 => ?_)
        · exact w_ret rfl (k _ _ _ H O (cF_44) (cA_44) (y44_0_14) ((ey44_0_14)) (y44_0_15) ((ey44_0_15)) (show (y44_0_14) = 0 ∨ (u0_10) ≤ (y44_0_14) ∧ a1 + (y44_0_14) ≤ (u0_12) ∧ 1 ≤ (y44_0_15) ∧ (y44_0_15) ≤ a1 from j44_5))
        · refine Ew_of (pcₚ := 54) (fun _ => x_iload_n rfl l44_1) ?_
          refine Ew_of (pcₚ := 55) (fun _ => x_iload_n rfl l44_2) ?_
          refine w_isub rfl ?_
          refine Ew_of (pcₚ := 57) (fun _ => x_aload_n rfl l44_0) ?_
          have r20 : (-2147483648 : Int) ≤ F 0 11 ∧ F 0 11 ≤ 2147483647 := rngE (show (-2147483648 : Int) ≤ F_44 0 11 ∧ F_44 0 11 ≤ 2147483647 from H.krg 0 11 (ltn len_V130_oz_C2cls rfl)) (show F_44 0 11 = F 0 11 from (mF_44 0 11 rfl))
          refine v_g H (o := 0) (v := I (F 0 11)) rfl rfl rfl rfl rfl (congrArg (fun z : Int => I z) ((mF_44 0 11 rfl) : F_44 0 11 = F 0 11)) ?_
          refine w_icmpgt (t := 159) rfl rfl (show inr ((a1 - x44_2)) from q_1722 b19 h0 j44_4) (show inr (F 0 11) from q_22 r20) (fun b21 => ?_) (fun b21 => ?_)
          · exact w_ret rfl (k _ _ _ H O (cF_44) (cA_44) (y44_0_14) ((ey44_0_14)) (y44_0_15) ((ey44_0_15)) (show (y44_0_14) = 0 ∨ (u0_10) ≤ (y44_0_14) ∧ a1 + (y44_0_14) ≤ (u0_12) ∧ 1 ≤ (y44_0_15) ∧ (y44_0_15) ≤ a1 from j44_5))
          · refine Ew_of (pcₚ := 64) (fun _ => x_iload_n rfl l44_1) ?_
            refine Ew_of (pcₚ := 65) (fun _ => x_aload_n rfl l44_0) ?_
            refine v_g H (o := 0) (v := I (y44_0_14)) rfl rfl rfl rfl rfl (congrArg (fun z : Int => I z) ((ey44_0_14) : F_44 0 14 = y44_0_14)) ?_
            refine w_iadd rfl ?_
            refine Ew_of (pcₚ := 70) (fun _ => x_aload_n rfl l44_0) ?_
            refine v_g H (o := 0) (v := I (u0_12)) rfl rfl rfl rfl rfl (congrArg (fun z : Int => I z) (((mF_44 0 12 rfl).trans (eu0_12)) : F_44 0 12 = u0_12)) ?_
            refine w_icmpge (t := 159) rfl rfl (show inr ((a1 + y44_0_14)) from q_2677 h4 h5 j44_6 r16) (show inr (u0_12) from q_22 r3) (fun b22 => ?_) (fun b22 => ?_)
            · exact w_ret rfl (k _ _ _ H O (cF_44) (cA_44) (y44_0_14) ((ey44_0_14)) (y44_0_15) ((ey44_0_15)) (show (y44_0_14) = 0 ∨ (u0_10) ≤ (y44_0_14) ∧ a1 + (y44_0_14) ≤ (u0_12) ∧ 1 ≤ (y44_0_15) ∧ (y44_0_15) ≤ a1 from j44_5))
            · refine Ew_of (pcₚ := 77) (fun _ => x_aload_n rfl l44_0) ?_
              refine v_g H (o := 0) (v := .ref (D 1)) rfl rfl rfl rfl rfl (vrf ((mF_44 0 0 rfl).trans (pf1))) ?_
              refine v_g H (o := 1) (v := .ref (D 2)) rfl rfl rfl rfl rfl (vrf ((mF_44 1 0 rfl).trans (pf2))) ?_
              refine Ew_of (pcₚ := 84) (fun _ => x_iload_n rfl l44_2) ?_
              refine Ew_of (pcₚ := 85) (fun _ => x_aload_n rfl l44_0) ?_
              refine v_g H (o := 0) (v := I (y44_0_14)) rfl rfl rfl rfl rfl (congrArg (fun z : Int => I z) ((ey44_0_14) : F_44 0 14 = y44_0_14)) ?_
              refine w_iadd rfl ?_
              refine v_lB H (o := 2) rfl rfl rfl rfl (n := n2) (en2) (show 0 ≤ (x44_2 + y44_0_14) ∧ (x44_2 + y44_0_14) < n2 from q_2678 b19 b22 h1 h2 h3 j44_4 j44_5) (fun v23 ev23 qv23 => ?_)
              have ev23 : (w2) ((x44_2 + y44_0_14)) = v23 := (congrFun ((funext (mA_44 2 rfl)).trans (ew2)) ((x44_2 + y44_0_14))).symm.trans ev23
              refine Ew_of (pcₚ := 91) (fun _ => x_aload_n rfl l44_0) ?_
              refine v_g H (o := 0) (v := .ref (D 1)) rfl rfl rfl rfl rfl (vrf ((mF_44 0 0 rfl).trans (pf1))) ?_
              refine v_g H (o := 1) (v := .ref (D 2)) rfl rfl rfl rfl rfl (vrf ((mF_44 1 0 rfl).trans (pf2))) ?_
              refine Ew_of (pcₚ := 98) (fun _ => x_iload_n rfl l44_1) ?_
              refine Ew_of (pcₚ := 99) (fun _ => x_aload_n rfl l44_0) ?_
              refine v_g H (o := 0) (v := I (y44_0_14)) rfl rfl rfl rfl rfl (congrArg (fun z : Int => I z) ((ey44_0_14) : F_44 0 14 = y44_0_14)) ?_
              refine w_iadd rfl ?_
              refine v_lB H (o := 2) rfl rfl rfl rfl (n := n2) (en2) (show 0 ≤ (a1 + y44_0_14) ∧ (a1 + y44_0_14) < n2 from q_2679 b22 h1 h2 h3 h4 j44_5) (fun v24 ev24 qv24 => ?_)
              have ev24 : (w2) ((a1 + y44_0_14)) = v24 := (congrFun ((funext (mA_44 2 rfl)).trans (ew2)) ((a1 + y44_0_14))).symm.trans ev24
              refine w_icmpne (t := 146) rfl rfl (show inr (v23) from q_2536 qv23) (show inr (v24) from q_2536 qv24) (fun b25 => ?_) (fun b25 => ?_)
              · refine Ew_of (pcₚ := 147) (fun _ => x_aload_n rfl l44_0) ?_
                refine v_g H (o := 0) (v := .ref (D 3)) rfl rfl rfl rfl rfl (vrf ((mF_44 0 8 rfl).trans (pf3))) ?_
                refine Ew_of (pcₚ := 151) (fun _ => x_iload_n rfl l44_2) ?_
                refine v_lI H (o := 3) rfl rfl rfl rfl (n := n3) (en3) (show 0 ≤ x44_2 ∧ x44_2 < n3 from q_2670 b19 h4 h5 j44_4) (fun v26 ev26 qv26 => ?_)
                have ev26 : (w3) (x44_2) = v26 := (congrFun ((funext (mA_44 3 rfl)).trans (ew3)) (x44_2)).symm.trans ev26
                have hb6 := hbk ((x44_2)) (by omega) (by omega)
                rw [ev26] at hb6
                have hb7 : -1 ≤ (v26) ∧ (v26) < (x44_2) := ⟨hb6.1, hb6.2.1⟩
                clear hb6
                refine Ew_of (pcₚ := 153) (fun _ => x_istore_n rfl) ?_
                refine Ew_of (pcₚ := 156) (fun _ => x_iinc (len := 3) rfl (rk_o (l44_3) rfl rfl)) ?_
                refine Ew_of (pcₚ := 44) (fun _ => x_goto rfl rfl) ?_
                exact ih44 _ (msE hm44 q_31 (q_34 b18)) _ _ _ _ (v26) ((x44_3 + 1)) (rk_o (rk_o (l44_0) rfl rfl) rfl rfl) (rk_o (rk_o (l44_1) rfl rfl) rfl rfl) (rk_o (rk_s) rfl rfl) (rk_s) H O (hS_44) (hA_44)   (y44_0_14) ((ey44_0_14)) (y44_0_15) ((ey44_0_15))  (show inr (v26) from qv26) (show inr ((x44_3 + 1)) from q_2672 b18 h4 h5 j44_2) (show (0) ≤ ((x44_3 + 1)) from q_29 j44_2) (show ((x44_3 + 1)) ≤ (0) ∨ ((x44_3 + 1)) ≤ ((a1)) from q_33 b18) (show -1 ≤ (v26) ∧ (v26) < (a1) from q_2671 hb7 j44_4) (show (y44_0_14) = 0 ∨ (u0_10) ≤ (y44_0_14) ∧ (a1) + (y44_0_14) ≤ (u0_12) ∧ 1 ≤ (y44_0_15) ∧ (y44_0_15) ≤ (a1) from j44_5) (show (y44_0_14) ≤ 16384 from j44_6) rfl
              · refine Ew_of (pcₚ := 108) (fun _ => x_aload_n rfl l44_0) ?_
                refine Ew_of (pcₚ := 109) (fun _ => x_iload_n rfl l44_2) ?_
                refine Ew_of (pcₚ := 110) (fun _ => x_iload_n rfl l44_1) ?_
                refine v_inv H (o := 0) rfl rfl rfl rfl rfl rfl (by rfl) (C128 (D := puc 524800 D) (N := puc 524800 N) (HW_subc H oz_C2cls_12 oz_C2cls_4) ((mF_44 0 0 rfl).trans (pf1)) ((mF_44 1 0 rfl).trans (pf2)) (n2) (en2) (u0_12) (((mF_44 0 12 rfl).trans (eu0_12))) (u1_1) (((mF_44 1 1 rfl).trans (eu1_1))) (show inr (x44_2) from j44_0) (show inr (a1) from h0) (show 0 ≤ (u1_1) ∧ (u1_1) ≤ (n2) ∧ (n2) ≤ 65536 ∧ (u1_1) ≤ 16384 from h1) (show (u0_12) ≤ (u1_1) from h2) (show 0 ≤ (x44_2) ∧ (x44_2) ≤ (a1) ∧ (a1) ≤ 16384 from q_2669 b19 h4 h5 j44_4) (fun z27 σ27 F27ₚ A27ₚ Hₚ Oₚ hS27 hA27 pz27_0 pz27_1 pz27_2 => ⟨rfl, ?_⟩))
                refine v_backc (c := c) (s := s) H oz_C2cls_12 oz_C2cls_4 Hₚ Oₚ (fun F27 A27 H Oₚ eF27 eA27 => ?_)
                have O := OUT_trans O Oₚ
                -- Finder.common
                have cF27 : SF oz_C2clsl_5 F F27 := SF_trans (cF_44) (SF_gluc (ι := oz_C2clsl_2) oz_C2cls_4 hS27 eF27 (by decide +kernel)) (any_sub (lₚ := []) (by decide +kernel))
                have mF27 := SFm_of cF27 oz_C2cls_10
                have cA27 : SA oz_C2clsl_4 A A27 := SA_trans (cA_44) (SA_gluc (ι := oz_C2clsl_2) oz_C2cls_4 hA27 eA27 (by decide +kernel)) (any_subA (lₚ := []) (by decide +kernel))
                have mA27 := SAm_of cA27 oz_C2cls_7
                refine Ew_of (pcₚ := 115) (fun _ => x_istore rfl) ?_
                refine Ew_of (pcₚ := 117) (fun _ => x_iload rfl rk_s) ?_
                refine Ew_of (pcₚ := 118) (fun _ => x_aload_n rfl (rk_o (l44_0) rfl rfl)) ?_
                refine v_g H (o := 0) (v := I (u0_10)) rfl rfl rfl rfl rfl (congrArg (fun z : Int => I z) (((mF27 0 10 rfl).trans (eu0_10)) : F27 0 10 = u0_10)) ?_
                refine w_icmplt (t := 146) rfl rfl (show inr (z27) from pz27_0) (show inr (u0_10) from q_2629 h3) (fun b28 => ?_) (fun b28 => ?_)
                · refine Ew_of (pcₚ := 147) (fun _ => x_aload_n rfl (rk_o (l44_0) rfl rfl)) ?_
                  refine v_g H (o := 0) (v := .ref (D 3)) rfl rfl rfl rfl rfl (vrf ((mF27 0 8 rfl).trans (pf3))) ?_
                  refine Ew_of (pcₚ := 151) (fun _ => x_iload_n rfl (rk_o (l44_2) rfl rfl)) ?_
                  refine v_lI H (o := 3) rfl rfl rfl rfl (n := n3) (en3) (show 0 ≤ x44_2 ∧ x44_2 < n3 from q_2670 b19 h4 h5 j44_4) (fun v29 ev29 qv29 => ?_)
                  have ev29 : (w3) (x44_2) = v29 := (congrFun ((funext (mA27 3 rfl)).trans (ew3)) (x44_2)).symm.trans ev29
                  have hb6 := hbk ((x44_2)) (by omega) (by omega)
                  rw [ev29] at hb6
                  have hb7 : -1 ≤ (v29) ∧ (v29) < (x44_2) := ⟨hb6.1, hb6.2.1⟩
                  clear hb6
                  refine Ew_of (pcₚ := 153) (fun _ => x_istore_n rfl) ?_
                  refine Ew_of (pcₚ := 156) (fun _ => x_iinc (len := 3) rfl (rk_o (rk_o (l44_3) rfl rfl) rfl rfl)) ?_
                  refine Ew_of (pcₚ := 44) (fun _ => x_goto rfl rfl) ?_
                  exact ih44 _ (msE hm44 q_31 (q_34 b18)) _ _ _ _ (v29) ((x44_3 + 1)) (rk_o (rk_o (rk_o (l44_0) rfl rfl) rfl rfl) rfl rfl) (rk_o (rk_o (rk_o (l44_1) rfl rfl) rfl rfl) rfl rfl) (rk_o (rk_s) rfl rfl) (rk_s) H O (SF_trans (hS_44) (SF_gluc (ι := oz_C2clsl_2) oz_C2cls_4 hS27 eF27 (by decide +kernel)) (any_sub (lₚ := []) (by decide +kernel))) (SA_trans (hA_44) (SA_gluc (ι := oz_C2clsl_2) oz_C2cls_4 hA27 eA27 (by decide +kernel)) (any_subA (lₚ := []) (by decide +kernel)))   (y44_0_14) ((((show F27 0 14 = F_44 0 14 from (eF27 0 14).trans (hS27 0 14 rfl))).trans (ey44_0_14))) (y44_0_15) ((((show F27 0 15 = F_44 0 15 from (eF27 0 15).trans (hS27 0 15 rfl))).trans (ey44_0_15)))  (show inr (v29) from qv29) (show inr ((x44_3 + 1)) from q_2672 b18 h4 h5 j44_2) (show (0) ≤ ((x44_3 + 1)) from q_29 j44_2) (show ((x44_3 + 1)) ≤ (0) ∨ ((x44_3 + 1)) ≤ ((a1)) from q_33 b18) (show -1 ≤ (v29) ∧ (v29) < (a1) from q_2671 hb7 j44_4) (show (y44_0_14) = 0 ∨ (u0_10) ≤ (y44_0_14) ∧ (a1) + (y44_0_14) ≤ (u0_12) ∧ 1 ≤ (y44_0_15) ∧ (y44_0_15) ≤ (a1) from j44_5) (show (y44_0_14) ≤ 16384 from j44_6) rfl
                · refine Ew_of (pcₚ := 126) (fun _ => x_iload rfl rk_s) ?_
                  refine Ew_of (pcₚ := 127) (fun _ => x_aload_n rfl (rk_o (l44_0) rfl rfl)) ?_
                  refine v_g H (o := 0) (v := I (y44_0_14)) rfl rfl rfl rfl rfl (congrArg (fun z : Int => I z) ((((show F27 0 14 = F_44 0 14 from (eF27 0 14).trans (hS27 0 14 rfl))).trans (ey44_0_14)) : F27 0 14 = y44_0_14)) ?_
                  refine w_icmple (t := 146) rfl rfl (show inr (z27) from pz27_0) (show inr (y44_0_14) from q_2680 j44_6 r16) (fun b30 => ?_) (fun b30 => ?_)
                  · refine Ew_of (pcₚ := 147) (fun _ => x_aload_n rfl (rk_o (l44_0) rfl rfl)) ?_
                    refine v_g H (o := 0) (v := .ref (D 3)) rfl rfl rfl rfl rfl (vrf ((mF27 0 8 rfl).trans (pf3))) ?_
                    refine Ew_of (pcₚ := 151) (fun _ => x_iload_n rfl (rk_o (l44_2) rfl rfl)) ?_
                    refine v_lI H (o := 3) rfl rfl rfl rfl (n := n3) (en3) (show 0 ≤ x44_2 ∧ x44_2 < n3 from q_2670 b19 h4 h5 j44_4) (fun v31 ev31 qv31 => ?_)
                    have ev31 : (w3) (x44_2) = v31 := (congrFun ((funext (mA27 3 rfl)).trans (ew3)) (x44_2)).symm.trans ev31
                    have hb6 := hbk ((x44_2)) (by omega) (by omega)
                    rw [ev31] at hb6
                    have hb7 : -1 ≤ (v31) ∧ (v31) < (x44_2) := ⟨hb6.1, hb6.2.1⟩
                    clear hb6
                    refine Ew_of (pcₚ := 153) (fun _ => x_istore_n rfl) ?_
                    refine Ew_of (pcₚ := 156) (fun _ => x_iinc (len := 3) rfl (rk_o (rk_o (l44_3) rfl rfl) rfl rfl)) ?_
                    refine Ew_of (pcₚ := 44) (fun _ => x_goto rfl rfl) ?_
                    exact ih44 _ (msE hm44 q_31 (q_34 b18)) _ _ _ _ (v31) ((x44_3 + 1)) (rk_o (rk_o (rk_o (l44_0) rfl rfl) rfl rfl) rfl rfl) (rk_o (rk_o (rk_o (l44_1) rfl rfl) rfl rfl) rfl rfl) (rk_o (rk_s) rfl rfl) (rk_s) H O (SF_trans (hS_44) (SF_gluc (ι := oz_C2clsl_2) oz_C2cls_4 hS27 eF27 (by decide +kernel)) (any_sub (lₚ := []) (by decide +kernel))) (SA_trans (hA_44) (SA_gluc (ι := oz_C2clsl_2) oz_C2cls_4 hA27 eA27 (by decide +kernel)) (any_subA (lₚ := []) (by decide +kernel)))   (y44_0_14) ((((show F27 0 14 = F_44 0 14 from (eF27 0 14).trans (hS27 0 14 rfl))).trans (ey44_0_14))) (y44_0_15) ((((show F27 0 15 = F_44 0 15 from (eF27 0 15).trans (hS27 0 15 rfl))).trans (ey44_0_15)))  (show inr (v31) from qv31) (show inr ((x44_3 + 1)) from q_2672 b18 h4 h5 j44_2) (show (0) ≤ ((x44_3 + 1)) from q_29 j44_2) (show ((x44_3 + 1)) ≤ (0) ∨ ((x44_3 + 1)) ≤ ((a1)) from q_33 b18) (show -1 ≤ (v31) ∧ (v31) < (a1) from q_2671 hb7 j44_4) (show (y44_0_14) = 0 ∨ (u0_10) ≤ (y44_0_14) ∧ (a1) + (y44_0_14) ≤ (u0_12) ∧ 1 ≤ (y44_0_15) ∧ (y44_0_15) ≤ (a1) from j44_5) (show (y44_0_14) ≤ 16384 from j44_6) rfl
                  · refine Ew_of (pcₚ := 134) (fun _ => x_aload_n rfl (rk_o (l44_0) rfl rfl)) ?_
                    refine Ew_of (pcₚ := 136) (fun _ => x_iload rfl rk_s) ?_
                    refine v_p H (o := 0) (z := z27) (v := I (z27)) rfl rfl rfl rfl rfl rfl rfl rfl (show (-2147483648 : Int) ≤ z27 ∧ z27 ≤ 2147483647 from q_2673 pz27_0 pz27_1) (fun σ H Oₚ => ?_)
                    have O := OUT_trans O Oₚ
                    have cFu32 : SF oz_C2clsl_5 F (updF F27 0 14 (z27)) := SF_upd (cF27) rfl
                    have mFu32 := SFm_of cFu32 oz_C2cls_10
                    refine Ew_of (pcₚ := 140) (fun _ => x_aload_n rfl (rk_o (l44_0) rfl rfl)) ?_
                    refine Ew_of (pcₚ := 141) (fun _ => x_iload_n rfl (rk_o (l44_1) rfl rfl)) ?_
                    refine Ew_of (pcₚ := 142) (fun _ => x_iload_n rfl (rk_o (l44_2) rfl rfl)) ?_
                    refine w_isub rfl ?_
                    refine v_p H (o := 0) (z := (a1 - x44_2)) (v := I ((a1 - x44_2))) rfl rfl rfl rfl rfl rfl rfl rfl (show (-2147483648 : Int) ≤ (a1 - x44_2) ∧ (a1 - x44_2) ≤ 2147483647 from q_2674 b19 h0 j44_4) (fun σ H Oₚ => ?_)
                    have O := OUT_trans O Oₚ
                    have cFu33 : SF oz_C2clsl_5 F (updF (updF F27 0 14 (z27)) 0 15 ((a1 - x44_2))) := SF_upd (cFu32) rfl
                    have mFu33 := SFm_of cFu33 oz_C2cls_10
                    refine Ew_of (pcₚ := 147) (fun _ => x_aload_n rfl (rk_o (l44_0) rfl rfl)) ?_
                    refine v_g H (o := 0) (v := .ref (D 3)) rfl rfl rfl rfl rfl (vrf ((mFu33 0 8 rfl).trans (pf3))) ?_
                    refine Ew_of (pcₚ := 151) (fun _ => x_iload_n rfl (rk_o (l44_2) rfl rfl)) ?_
                    refine v_lI H (o := 3) rfl rfl rfl rfl (n := n3) (en3) (show 0 ≤ x44_2 ∧ x44_2 < n3 from q_2670 b19 h4 h5 j44_4) (fun v34 ev34 qv34 => ?_)
                    have ev34 : (w3) (x44_2) = v34 := (congrFun ((funext (mA27 3 rfl)).trans (ew3)) (x44_2)).symm.trans ev34
                    have hb6 := hbk ((x44_2)) (by omega) (by omega)
                    rw [ev34] at hb6
                    have hb7 : -1 ≤ (v34) ∧ (v34) < (x44_2) := ⟨hb6.1, hb6.2.1⟩
                    clear hb6
                    refine Ew_of (pcₚ := 153) (fun _ => x_istore_n rfl) ?_
                    refine Ew_of (pcₚ := 156) (fun _ => x_iinc (len := 3) rfl (rk_o (rk_o (l44_3) rfl rfl) rfl rfl)) ?_
                    refine Ew_of (pcₚ := 44) (fun _ => x_goto rfl rfl) ?_
                    exact ih44 _ (msE hm44 q_31 (q_34 b18)) _ _ _ _ (v34) ((x44_3 + 1)) (rk_o (rk_o (rk_o (l44_0) rfl rfl) rfl rfl) rfl rfl) (rk_o (rk_o (rk_o (l44_1) rfl rfl) rfl rfl) rfl rfl) (rk_o (rk_s) rfl rfl) (rk_s) H O (SF_upd (SF_upd (SF_trans (hS_44) (SF_gluc (ι := oz_C2clsl_2) oz_C2cls_4 hS27 eF27 (by decide +kernel)) (any_sub (lₚ := []) (by decide +kernel))) rfl) rfl) (SA_trans (hA_44) (SA_gluc (ι := oz_C2clsl_2) oz_C2cls_4 hA27 eA27 (by decide +kernel)) (any_subA (lₚ := []) (by decide +kernel)))   (z27) (rfl) ((a1 - x44_2)) (rfl)  (show inr (v34) from qv34) (show inr ((x44_3 + 1)) from q_2672 b18 h4 h5 j44_2) (show (0) ≤ ((x44_3 + 1)) from q_29 j44_2) (show ((x44_3 + 1)) ≤ (0) ∨ ((x44_3 + 1)) ≤ ((a1)) from q_33 b18) (show -1 ≤ (v34) ∧ (v34) < (a1) from q_2671 hb7 j44_4) (show (z27) = 0 ∨ (u0_10) ≤ (z27) ∧ (a1) + (z27) ≤ (u0_12) ∧ 1 ≤ ((a1 - x44_2)) ∧ ((a1 - x44_2)) ≤ (a1) by omega) (show (z27) ≤ 16384 from q_2681 h1 h2 h4 pz27_2) rfl
  · refine Ew_of (pcₚ := 9) (fun _ => x_aload_n rfl rfl) ?_
    refine Ew_of (pcₚ := 10) (fun _ => x_aload_n rfl rfl) ?_
    refine v_g H (o := 0) (v := I (u0_17)) rfl rfl rfl rfl rfl (congrArg (fun z : Int => I z) ((eu0_17) : F 0 17 = u0_17)) ?_
    refine v_p H (o := 0) (z := u0_17) (v := I (u0_17)) rfl rfl rfl rfl rfl rfl rfl rfl (show (-2147483648 : Int) ≤ u0_17 ∧ u0_17 ≤ 2147483647 from r7) (fun σ H Oₚ => ?_)
    have O := OUT_trans O Oₚ
    have cFu35 : SF oz_C2clsl_5 F (updF F 0 14 (u0_17)) := SF_upd (SF_refl) rfl
    have mFu35 := SFm_of cFu35 oz_C2cls_10
    refine Ew_of (pcₚ := 17) (fun _ => x_aload_n rfl rfl) ?_
    refine Ew_of (pcₚ := 18) (fun _ => x_aload_n rfl rfl) ?_
    refine v_g H (o := 0) (v := I (u0_18)) rfl rfl rfl rfl rfl (congrArg (fun z : Int => I z) (((mFu35 0 18 rfl).trans (eu0_18)) : (updF F 0 14 (u0_17)) 0 18 = u0_18)) ?_
    refine v_p H (o := 0) (z := u0_18) (v := I (u0_18)) rfl rfl rfl rfl rfl rfl rfl rfl (show (-2147483648 : Int) ≤ u0_18 ∧ u0_18 ≤ 2147483647 from r8) (fun σ H Oₚ => ?_)
    have O := OUT_trans O Oₚ
    have cFu36 : SF oz_C2clsl_5 F (updF (updF F 0 14 (u0_17)) 0 15 (u0_18)) := SF_upd (cFu35) rfl
    have mFu36 := SFm_of cFu36 oz_C2cls_10
    exact w_ret rfl (k _ _ _ H O (cFu36) (SA_refl) (u0_17) (rfl) (u0_18) (rfl) (show (u0_17) = 0 ∨ (u0_10) ≤ (u0_17) ∧ a1 + (u0_17) ≤ (u0_12) ∧ 1 ≤ (u0_18) ∧ (u0_18) ≤ a1 by omega))
abbrev V127 : vV := [(0, 5, [(4, 0), (4, 0), (4, 0), (4, 0), (0, 0), (0, 0), (0, 0), (4, 0), (4, 0), (0, 0), (0, 0), (0, 0), (0, 0), (0, 0), (0, 0), (0, 0), (0, 0), (0, 0), (0, 0)]), (0, 7, [(4, 0), (0, 0), (1, 0), (0, 0), (0, 0)]), (1, 0, []), (1, 1, [])]
theorem len_V127_oz_C2cls : (V127).length = 4 := by decide +kernel
theorem oz_C2cls_14 : vsub V127 V130 [0, 1, 2, 3] = true := by decide +kernel
theorem oz_C2cls_15 : vsub V127 V129 [0, 1, 2, 3] = true := by decide +kernel
def oz_C2clsl_6 : List (Nat × Nat) := [(0, 14), (0, 15), (0, 16), (0, 17), (0, 18)]
theorem oz_C2cls_16 : (oz_C2clsl_6).all (fun p => !tbz 507904 (Nat.add (Nat.mul 32 p.1) p.2)) = true := by decide +kernel
def oz_C2clsl_7 : List Nat := [0, 1, 2, 3]
theorem oz_C2cls_17 : okc oz_C2clsl_7 403177984 = true := by decide +kernel
/-- Finder.matchAt: this, this.data, this.data.bytes, this.back -/
theorem C127 {σE : rS} {D N : Nat → Nat} {F : hF} {A : hA} {d c s : Nat} {Q : wQ} (H : HW V127 σE D N F A) {a1 : Int} (pf1 : F 0 0 = (D 1 : Int)) (pf2 : F 1 0 = (D 2 : Int)) (pf3 : F 0 8 = (D 3 : Int)) (n2 : Int) (en2 : (N 2 : Int) = n2) (n3 : Int) (en3 : (N 3 : Int) = n3) (u0_6 : Int) (eu0_6 : F 0 6 = u0_6) (u0_10 : Int) (eu0_10 : F 0 10 = u0_10) (u0_12 : Int) (eu0_12 : F 0 12 = u0_12) (u0_13 : Int) (eu0_13 : F 0 13 = u0_13) (u0_14 : Int) (eu0_14 : F 0 14 = u0_14) (u0_15 : Int) (eu0_15 : F 0 15 = u0_15) (u0_16 : Int) (eu0_16 : F 0 16 = u0_16) (u0_17 : Int) (eu0_17 : F 0 17 = u0_17) (u0_18 : Int) (eu0_18 : F 0 18 = u0_18) (u1_1 : Int) (eu1_1 : F 1 1 = u1_1) (w2 : Int → Int) (ew2 : A 2 = w2) (w3 : Int → Int) (ew3 : A 3 = w3) (h0 : inr (a1)) (h1 : 0 ≤ (u1_1) ∧ (u1_1) ≤ (n2) ∧ (n2) ≤ 65536 ∧ (u1_1) ≤ 16384) (h2 : (u0_12) ≤ (u1_1)) (h3 : 1 ≤ (u0_10) ∧ (u0_10) ≤ 8) (h4 : 0 ≤ (a1) ∧ (a1) < (u0_6)) (h5 : (u0_6) ≤ (n3) ∧ (n3) ≤ 16384) (h6 : BKI ((w2)) ((w3)) ((u0_10)) ((u0_6))) (h7 : (u0_16) = -1 ∨ (u0_17) = 0 ∨ (u0_10) ≤ (u0_17) ∧ (u0_16) + (u0_17) ≤ (u0_12) ∧ 1 ≤ (u0_18) ∧ (u0_18) ≤ (u0_16)) (h8 : (u0_13) < (u0_6)) (h9 : (a1) ≤ (u0_13)) (k : ∀ (z : Int) (σ : rS) (Fₚ : hF) (Aₚ : hA), HW V127 σ D N Fₚ Aₚ → OUT (V127).length D N σE c s D N σ c s → SF [(0, 14), (0, 15), (0, 16), (0, 17), (0, 18)] F Fₚ → SA [] A Aₚ → ∀ y0_14 : Int, Fₚ 0 14 = y0_14 → ∀ y0_15 : Int, Fₚ 0 15 = y0_15 → ∀ y0_16 : Int, Fₚ 0 16 = y0_16 → ∀ y0_17 : Int, Fₚ 0 17 = y0_17 → ∀ y0_18 : Int, Fₚ 0 18 = y0_18 → ((z) = 0 ∨ (z) = 1) → ((z) = 1 → (u0_10) ≤ (y0_14) ∧ (a1) + (y0_14) ≤ (u0_12) ∧ 1 ≤ (y0_15) ∧ (y0_15) ≤ (a1)) → ((y0_16) = -1 ∨ (y0_17) = 0 ∨ (u0_10) ≤ (y0_17) ∧ (y0_16) + (y0_17) ≤ (u0_12) ∧ 1 ≤ (y0_18) ∧ (y0_18) ≤ (y0_16)) → Q (some (I z)) σ c s) : Ew 127 (d + 2) 0 (rargs 0 [.ref (D 0), I a1]) [] σE c s Q := by
  have O := OUT_refl (n := (V127).length) (D := D) (N := N) (σ := σE) (c := c) (s := s)
  have HE := H
  have r1 : (-2147483648 : Int) ≤ u0_6 ∧ u0_6 ≤ 2147483647 := rngE (show (-2147483648 : Int) ≤ F 0 6 ∧ F 0 6 ≤ 2147483647 from H.krg 0 6 (ltn len_V127_oz_C2cls rfl)) (show F 0 6 = u0_6 from (eu0_6))
  have r2 : (-2147483648 : Int) ≤ u0_10 ∧ u0_10 ≤ 2147483647 := rngE (show (-2147483648 : Int) ≤ F 0 10 ∧ F 0 10 ≤ 2147483647 from H.krg 0 10 (ltn len_V127_oz_C2cls rfl)) (show F 0 10 = u0_10 from (eu0_10))
  have r3 : (-2147483648 : Int) ≤ u0_12 ∧ u0_12 ≤ 2147483647 := rngE (show (-2147483648 : Int) ≤ F 0 12 ∧ F 0 12 ≤ 2147483647 from H.krg 0 12 (ltn len_V127_oz_C2cls rfl)) (show F 0 12 = u0_12 from (eu0_12))
  have r4 : (-2147483648 : Int) ≤ u0_13 ∧ u0_13 ≤ 2147483647 := rngE (show (-2147483648 : Int) ≤ F 0 13 ∧ F 0 13 ≤ 2147483647 from H.krg 0 13 (ltn len_V127_oz_C2cls rfl)) (show F 0 13 = u0_13 from (eu0_13))
  have r5 : (-2147483648 : Int) ≤ u0_14 ∧ u0_14 ≤ 2147483647 := rngE (show (-2147483648 : Int) ≤ F 0 14 ∧ F 0 14 ≤ 2147483647 from H.krg 0 14 (ltn len_V127_oz_C2cls rfl)) (show F 0 14 = u0_14 from (eu0_14))
  have r6 : (-2147483648 : Int) ≤ u0_15 ∧ u0_15 ≤ 2147483647 := rngE (show (-2147483648 : Int) ≤ F 0 15 ∧ F 0 15 ≤ 2147483647 from H.krg 0 15 (ltn len_V127_oz_C2cls rfl)) (show F 0 15 = u0_15 from (eu0_15))
  have r7 : (-2147483648 : Int) ≤ u0_16 ∧ u0_16 ≤ 2147483647 := rngE (show (-2147483648 : Int) ≤ F 0 16 ∧ F 0 16 ≤ 2147483647 from H.krg 0 16 (ltn len_V127_oz_C2cls rfl)) (show F 0 16 = u0_16 from (eu0_16))
  have r8 : (-2147483648 : Int) ≤ u0_17 ∧ u0_17 ≤ 2147483647 := rngE (show (-2147483648 : Int) ≤ F 0 17 ∧ F 0 17 ≤ 2147483647 from H.krg 0 17 (ltn len_V127_oz_C2cls rfl)) (show F 0 17 = u0_17 from (eu0_17))
  have r9 : (-2147483648 : Int) ≤ u0_18 ∧ u0_18 ≤ 2147483647 := rngE (show (-2147483648 : Int) ≤ F 0 18 ∧ F 0 18 ≤ 2147483647 from H.krg 0 18 (ltn len_V127_oz_C2cls rfl)) (show F 0 18 = u0_18 from (eu0_18))
  have r10 : (-2147483648 : Int) ≤ u1_1 ∧ u1_1 ≤ 2147483647 := rngE (show (-2147483648 : Int) ≤ F 1 1 ∧ F 1 1 ≤ 2147483647 from H.krg 1 1 (ltn len_V127_oz_C2cls rfl)) (show F 1 1 = u1_1 from (eu1_1))
  have r11 : (0 : Int) ≤ n2 ∧ n2 ≤ 1000000 := nleE (H.nle 2 (ltn len_V127_oz_C2cls rfl)) (show (N 2 : Int) = n2 from en2)
  have r12 : (0 : Int) ≤ n3 ∧ n3 ≤ 1000000 := nleE (H.nle 3 (ltn len_V127_oz_C2cls rfl)) (show (N 3 : Int) = n3 from en3)
  refine Ew_of (pcₚ := 1) (fun _ => x_aload_n rfl rfl) ?_
  have r13 : (-2147483648 : Int) ≤ F 0 9 ∧ F 0 9 ≤ 2147483647 := H.krg 0 9 (ltn len_V127_oz_C2cls rfl)
  refine v_g H (o := 0) (v := I (F 0 9)) rfl rfl rfl rfl rfl (congrArg (fun z : Int => I z) (rfl : F 0 9 = F 0 9)) ?_
  refine Ew_of (pcₚ := 5) (fun _ => x_iconst rfl) ?_
  refine w_icmpge (t := 44) rfl rfl (show inr (F 0 9) from q_22 r13) (show inr (2) from q_55) (fun b14 => ?_) (fun b14 => ?_)
  · refine Ew_of (pcₚ := 45) (fun _ => x_aload_n rfl rfl) ?_
    refine Ew_of (pcₚ := 46) (fun _ => x_iload_n rfl rfl) ?_
    refine v_inv H (o := 0) rfl rfl rfl rfl rfl rfl (by rfl) (C130 (D := puc 403177984 D) (N := puc 403177984 N) (HW_subc H oz_C2cls_14 oz_C2cls_17) (pf1) (pf2) (pf3) (n2) (en2) (n3) (en3) (u0_6) ((eu0_6)) (u0_10) ((eu0_10)) (u0_12) ((eu0_12)) (u0_14) ((eu0_14)) (u0_15) ((eu0_15)) (u0_16) ((eu0_16)) (u0_17) ((eu0_17)) (u0_18) ((eu0_18)) (u1_1) ((eu1_1)) (w2) (ew2) (w3) (ew3) (show inr (a1) from h0) (show 0 ≤ (u1_1) ∧ (u1_1) ≤ (n2) ∧ (n2) ≤ 65536 ∧ (u1_1) ≤ 16384 from h1) (show (u0_12) ≤ (u1_1) from h2) (show 1 ≤ (u0_10) ∧ (u0_10) ≤ 8 from h3) (show 0 ≤ (a1) ∧ (a1) < (u0_6) from h4) (show (u0_6) ≤ (n3) ∧ (n3) ≤ 16384 from h5) (show BKI ((w2)) ((w3)) ((u0_10)) ((u0_6)) from h6) (show (u0_16) = -1 ∨ (u0_17) = 0 ∨ (u0_10) ≤ (u0_17) ∧ (u0_16) + (u0_17) ≤ (u0_12) ∧ 1 ≤ (u0_18) ∧ (u0_18) ≤ (u0_16) from h7) (fun σ15 F15ₚ A15ₚ Hₚ Oₚ hS15 hA15 y15_0_14 ey15_0_14 y15_0_15 ey15_0_15 pz15_0 => ⟨rfl, ?_⟩))
    refine v_backc (c := c) (s := s) H oz_C2cls_14 oz_C2cls_17 Hₚ Oₚ (fun F15 A15 H Oₚ eF15 eA15 => ?_)
    have O := OUT_trans O Oₚ
    -- Finder.longest
    have cF15 : SF oz_C2clsl_6 F F15 := SF_trans (SF_refl) (SF_gluc (ι := oz_C2clsl_7) oz_C2cls_17 hS15 eF15 (by decide +kernel)) (any_sub (lₚ := [(0, 14), (0, 15)]) (by decide +kernel))
    have mF15 := SFm_of cF15 oz_C2cls_16
    have cA15 : SA oz_C2clsl_4 A A15 := SA_trans (SA_refl) (SA_gluc (ι := oz_C2clsl_7) oz_C2cls_17 hA15 eA15 (by decide +kernel)) (any_subA (lₚ := []) (by decide +kernel))
    have mA15 := SAm_of cA15 oz_C2cls_7
    have r16 : (-2147483648 : Int) ≤ y15_0_14 ∧ y15_0_14 ≤ 2147483647 := rngE (show (-2147483648 : Int) ≤ F15 0 14 ∧ F15 0 14 ≤ 2147483647 from H.krg 0 14 (ltn len_V127_oz_C2cls rfl)) (show F15 0 14 = y15_0_14 from ((eF15 0 14).trans ey15_0_14))
    have r17 : (-2147483648 : Int) ≤ y15_0_15 ∧ y15_0_15 ≤ 2147483647 := rngE (show (-2147483648 : Int) ≤ F15 0 15 ∧ F15 0 15 ≤ 2147483647 from H.krg 0 15 (ltn len_V127_oz_C2cls rfl)) (show F15 0 15 = y15_0_15 from ((eF15 0 15).trans ey15_0_15))
    refine Ew_of (pcₚ := 50) (fun _ => x_aload_n rfl rfl) ?_
    refine v_g H (o := 0) (v := I (y15_0_14)) rfl rfl rfl rfl rfl (congrArg (fun z : Int => I z) (((eF15 0 14).trans ey15_0_14) : F15 0 14 = y15_0_14)) ?_
    have hc74 : ∀ (ls : rO) (σ : rS) (F_c74 : hF) (A_c74 : hA) , rlook ls 0 = some (.ref (D 0)) → HW V127 σ D N F_c74 A_c74 → OUT (V127).length D N σE c s D N σ c s → SF [] F15 F_c74 → SA [] A15 A_c74 → (((y15_0_14) = (0)) ∨ ((y15_0_14) ≠ (0) ∧ (F 0 9) = (2)) ∨ ((y15_0_14) ≠ (0) ∧ (F 0 9) ≠ (2) ∧ ((a1 + 1)) > (u0_13))) → Ew 127 (d + 2) 74 ls [] σ c s Q := by
     as_aux_lemma =>
      intro  ls σ F_c74 A_c74  lc74_0 H O hS_c74 hA_c74     jc74_0
      have cF_c74 : SF oz_C2clsl_6 F F_c74 := SF_trans (cF15) hS_c74 (any_sub (by decide +kernel))
      have mF_c74 := SFm_of cF_c74 oz_C2cls_16
      have cA_c74 : SA oz_C2clsl_4 A A_c74 := SA_trans (cA15) hA_c74 (any_subA (by decide +kernel))
      have mA_c74 := SAm_of cA_c74 oz_C2cls_7
      refine Ew_of (pcₚ := 75) (fun _ => x_aload_n rfl lc74_0) ?_
      refine v_g H (o := 0) (v := I (y15_0_14)) rfl rfl rfl rfl rfl (congrArg (fun z : Int => I z) (((hS_c74 0 14 rfl).trans ((eF15 0 14).trans ey15_0_14)) : F_c74 0 14 = y15_0_14)) ?_
      refine w_ifle (t := 85) rfl rfl (show inr (y15_0_14) from q_22 r16) (fun b18 => ?_) (fun b18 => ?_)
      · refine Ew_of (pcₚ := 86) (fun _ => x_iconst rfl) ?_
        exact w_ireturn rfl (k (0) _ _ _ H O (cF_c74) (cA_c74) (y15_0_14) (((hS_c74 0 14 rfl).trans ((eF15 0 14).trans ey15_0_14))) (y15_0_15) (((hS_c74 0 15 rfl).trans ((eF15 0 15).trans ey15_0_15))) (u0_16) ((((hS_c74 0 16 rfl).trans ((show F15 0 16 = F 0 16 from (eF15 0 16).trans (hS15 0 16 rfl)))).trans (eu0_16))) (u0_17) ((((hS_c74 0 17 rfl).trans ((show F15 0 17 = F 0 17 from (eF15 0 17).trans (hS15 0 17 rfl)))).trans (eu0_17))) (u0_18) ((((hS_c74 0 18 rfl).trans ((show F15 0 18 = F 0 18 from (eF15 0 18).trans (hS15 0 18 rfl)))).trans (eu0_18))) (show (0) = 0 ∨ (0) = 1 by first | exact q_1 | omega) (show (0) = 1 → (u0_10) ≤ (y15_0_14) ∧ a1 + (y15_0_14) ≤ (u0_12) ∧ 1 ≤ (y15_0_15) ∧ (y15_0_15) ≤ a1 by first | exact q_2682 b18 h0 h3 h4 r16 r17 r3 | omega) (show (u0_16) = -1 ∨ (u0_17) = 0 ∨ (u0_10) ≤ (u0_17) ∧ (u0_16) + (u0_17) ≤ (u0_12) ∧ 1 ≤ (u0_18) ∧ (u0_18) ≤ (u0_16) from h7))
      · refine Ew_of (pcₚ := 82) (fun _ => x_iconst rfl) ?_
        refine Ew_of (pcₚ := 86) (fun _ => x_goto rfl rfl) ?_
        exact w_ireturn rfl (k (1) _ _ _ H O (cF_c74) (cA_c74) (y15_0_14) (((hS_c74 0 14 rfl).trans ((eF15 0 14).trans ey15_0_14))) (y15_0_15) (((hS_c74 0 15 rfl).trans ((eF15 0 15).trans ey15_0_15))) (u0_16) ((((hS_c74 0 16 rfl).trans ((show F15 0 16 = F 0 16 from (eF15 0 16).trans (hS15 0 16 rfl)))).trans (eu0_16))) (u0_17) ((((hS_c74 0 17 rfl).trans ((show F15 0 17 = F 0 17 from (eF15 0 17).trans (hS15 0 17 rfl)))).trans (eu0_17))) (u0_18) ((((hS_c74 0 18 rfl).trans ((show F15 0 18 = F 0 18 from (eF15 0 18).trans (hS15 0 18 rfl)))).trans (eu0_18))) (show (1) = 0 ∨ (1) = 1 by first | exact q_5 | omega) (show (1) = 1 → (u0_10) ≤ (y15_0_14) ∧ a1 + (y15_0_14) ≤ (u0_12) ∧ 1 ≤ (y15_0_15) ∧ (y15_0_15) ≤ a1 by first | exact q_2683 b18 h0 h3 h4 jc74_0 pz15_0 r17 r3 | omega) (show (u0_16) = -1 ∨ (u0_17) = 0 ∨ (u0_10) ≤ (u0_17) ∧ (u0_16) + (u0_17) ≤ (u0_12) ∧ 1 ≤ (u0_18) ∧ (u0_18) ≤ (u0_16) from h7))
    refine w_ifeq (t := 74) rfl rfl (show inr (y15_0_14) from q_22 r16) (fun b19 => ?_) (fun b19 => ?_)
    · exact hc74  _ _ _ _  (rfl) H O (SF_refl) (SA_refl)     (show ((y15_0_14) = (0)) ∨ ((y15_0_14) ≠ (0) ∧ (F 0 9) = (2)) ∨ ((y15_0_14) ≠ (0) ∧ (F 0 9) ≠ (2) ∧ ((a1 + 1)) > (u0_13)) from q_2684 b19)
    · refine Ew_of (pcₚ := 57) (fun _ => x_aload_n rfl rfl) ?_
      refine v_g H (o := 0) (v := I (F 0 9)) rfl rfl rfl rfl rfl (congrArg (fun z : Int => I z) ((mF15 0 9 rfl) : F15 0 9 = F 0 9)) ?_
      refine Ew_of (pcₚ := 61) (fun _ => x_iconst rfl) ?_
      refine w_icmpeq (t := 74) rfl rfl (show inr (F 0 9) from q_2685 b14 r13) (show inr (2) from q_55) (fun b20 => ?_) (fun b20 => ?_)
      · exact hc74  _ _ _ _  (rfl) H O (SF_refl) (SA_refl)     (show ((y15_0_14) = (0)) ∨ ((y15_0_14) ≠ (0) ∧ (F 0 9) = (2)) ∨ ((y15_0_14) ≠ (0) ∧ (F 0 9) ≠ (2) ∧ ((a1 + 1)) > (u0_13)) from q_2686 b19 b20)
      · refine Ew_of (pcₚ := 65) (fun _ => x_iload_n rfl rfl) ?_
        refine Ew_of (pcₚ := 66) (fun _ => x_iconst rfl) ?_
        refine w_iadd rfl ?_
        refine Ew_of (pcₚ := 68) (fun _ => x_aload_n rfl rfl) ?_
        refine v_g H (o := 0) (v := I (u0_13)) rfl rfl rfl rfl rfl (congrArg (fun z : Int => I z) (((mF15 0 13 rfl).trans (eu0_13)) : F15 0 13 = u0_13)) ?_
        refine w_icmple (t := 87) rfl rfl (show inr ((a1 + 1)) from q_2687 h4 h5) (show inr (u0_13) from q_22 r4) (fun b21 => ?_) (fun b21 => ?_)
        · refine Ew_of (pcₚ := 88) (fun _ => x_aload_n rfl rfl) ?_
          refine v_g H (o := 0) (v := I (y15_0_14)) rfl rfl rfl rfl rfl (congrArg (fun z : Int => I z) (((eF15 0 14).trans ey15_0_14) : F15 0 14 = y15_0_14)) ?_
          refine Ew_of (pcₚ := 92) (fun _ => x_istore_n rfl) ?_
          refine Ew_of (pcₚ := 93) (fun _ => x_aload_n rfl (rk_o (rfl) rfl rfl)) ?_
          refine v_g H (o := 0) (v := I (y15_0_15)) rfl rfl rfl rfl rfl (congrArg (fun z : Int => I z) (((eF15 0 15).trans ey15_0_15) : F15 0 15 = y15_0_15)) ?_
          refine Ew_of (pcₚ := 97) (fun _ => x_istore_n rfl) ?_
          refine Ew_of (pcₚ := 98) (fun _ => x_aload_n rfl (rk_o (rk_o (rfl) rfl rfl) rfl rfl)) ?_
          refine Ew_of (pcₚ := 99) (fun _ => x_iload_n rfl (rk_o (rk_o (rfl) rfl rfl) rfl rfl)) ?_
          refine Ew_of (pcₚ := 100) (fun _ => x_iconst rfl) ?_
          refine w_iadd rfl ?_
          refine v_inv H (o := 0) rfl rfl rfl rfl rfl rfl (by rfl) (C130 (D := puc 403177984 D) (N := puc 403177984 N) (HW_subc H oz_C2cls_14 oz_C2cls_17) ((mF15 0 0 rfl).trans (pf1)) ((mF15 1 0 rfl).trans (pf2)) ((mF15 0 8 rfl).trans (pf3)) (n2) (en2) (n3) (en3) (u0_6) (((mF15 0 6 rfl).trans (eu0_6))) (u0_10) (((mF15 0 10 rfl).trans (eu0_10))) (u0_12) (((mF15 0 12 rfl).trans (eu0_12))) (y15_0_14) (((eF15 0 14).trans ey15_0_14)) (y15_0_15) (((eF15 0 15).trans ey15_0_15)) (u0_16) ((((show F15 0 16 = F 0 16 from (eF15 0 16).trans (hS15 0 16 rfl))).trans (eu0_16))) (u0_17) ((((show F15 0 17 = F 0 17 from (eF15 0 17).trans (hS15 0 17 rfl))).trans (eu0_17))) (u0_18) ((((show F15 0 18 = F 0 18 from (eF15 0 18).trans (hS15 0 18 rfl))).trans (eu0_18))) (u1_1) (((mF15 1 1 rfl).trans (eu1_1))) (w2) ((funext (mA15 2 rfl)).trans (ew2)) (w3) ((funext (mA15 3 rfl)).trans (ew3)) (show inr ((a1 + 1)) from q_2687 h4 h5) (show 0 ≤ (u1_1) ∧ (u1_1) ≤ (n2) ∧ (n2) ≤ 65536 ∧ (u1_1) ≤ 16384 from h1) (show (u0_12) ≤ (u1_1) from h2) (show 1 ≤ (u0_10) ∧ (u0_10) ≤ 8 from h3) (show 0 ≤ ((a1 + 1)) ∧ ((a1 + 1)) < (u0_6) from q_2688 b21 h4 h8) (show (u0_6) ≤ (n3) ∧ (n3) ≤ 16384 from h5) (show BKI ((w2)) ((w3)) ((u0_10)) ((u0_6)) from h6) (show (u0_16) = -1 ∨ (u0_17) = 0 ∨ (u0_10) ≤ (u0_17) ∧ (u0_16) + (u0_17) ≤ (u0_12) ∧ 1 ≤ (u0_18) ∧ (u0_18) ≤ (u0_16) from h7) (fun σ22 F22ₚ A22ₚ Hₚ Oₚ hS22 hA22 y22_0_14 ey22_0_14 y22_0_15 ey22_0_15 pz22_0 => ⟨rfl, ?_⟩))
          refine v_backc (c := c) (s := s) H oz_C2cls_14 oz_C2cls_17 Hₚ Oₚ (fun F22 A22 H Oₚ eF22 eA22 => ?_)
          have O := OUT_trans O Oₚ
          -- Finder.longest
          have cF22 : SF oz_C2clsl_6 F F22 := SF_trans (cF15) (SF_gluc (ι := oz_C2clsl_7) oz_C2cls_17 hS22 eF22 (by decide +kernel)) (any_sub (lₚ := [(0, 14), (0, 15)]) (by decide +kernel))
          have mF22 := SFm_of cF22 oz_C2cls_16
          have cA22 : SA oz_C2clsl_4 A A22 := SA_trans (cA15) (SA_gluc (ι := oz_C2clsl_7) oz_C2cls_17 hA22 eA22 (by decide +kernel)) (any_subA (lₚ := []) (by decide +kernel))
          have mA22 := SAm_of cA22 oz_C2cls_7
          have r23 : (-2147483648 : Int) ≤ y22_0_14 ∧ y22_0_14 ≤ 2147483647 := rngE (show (-2147483648 : Int) ≤ F22 0 14 ∧ F22 0 14 ≤ 2147483647 from H.krg 0 14 (ltn len_V127_oz_C2cls rfl)) (show F22 0 14 = y22_0_14 from ((eF22 0 14).trans ey22_0_14))
          have r24 : (-2147483648 : Int) ≤ y22_0_15 ∧ y22_0_15 ≤ 2147483647 := rngE (show (-2147483648 : Int) ≤ F22 0 15 ∧ F22 0 15 ≤ 2147483647 from H.krg 0 15 (ltn len_V127_oz_C2cls rfl)) (show F22 0 15 = y22_0_15 from ((eF22 0 15).trans ey22_0_15))
          refine Ew_of (pcₚ := 105) (fun _ => x_aload_n rfl (rk_o (rk_o (rfl) rfl rfl) rfl rfl)) ?_
          refine Ew_of (pcₚ := 106) (fun _ => x_iload_n rfl (rk_o (rk_o (rfl) rfl rfl) rfl rfl)) ?_
          refine Ew_of (pcₚ := 107) (fun _ => x_iconst rfl) ?_
          refine w_iadd rfl ?_
          refine v_p H (o := 0) (z := (a1 + 1)) (v := I ((a1 + 1))) rfl rfl rfl rfl rfl rfl rfl rfl (show (-2147483648 : Int) ≤ (a1 + 1) ∧ (a1 + 1) ≤ 2147483647 from q_2689 h4 h5) (fun σ H Oₚ => ?_)
          have O := OUT_trans O Oₚ
          have cFu25 : SF oz_C2clsl_6 F (updF F22 0 16 ((a1 + 1))) := SF_upd (cF22) rfl
          have mFu25 := SFm_of cFu25 oz_C2cls_16
          refine Ew_of (pcₚ := 112) (fun _ => x_aload_n rfl (rk_o (rk_o (rfl) rfl rfl) rfl rfl)) ?_
          refine Ew_of (pcₚ := 113) (fun _ => x_aload_n rfl (rk_o (rk_o (rfl) rfl rfl) rfl rfl)) ?_
          refine v_g H (o := 0) (v := I (y22_0_14)) rfl rfl rfl rfl rfl (congrArg (fun z : Int => I z) (((eF22 0 14).trans ey22_0_14) : (updF F22 0 16 ((a1 + 1))) 0 14 = y22_0_14)) ?_
          refine v_p H (o := 0) (z := y22_0_14) (v := I (y22_0_14)) rfl rfl rfl rfl rfl rfl rfl rfl (show (-2147483648 : Int) ≤ y22_0_14 ∧ y22_0_14 ≤ 2147483647 from r23) (fun σ H Oₚ => ?_)
          have O := OUT_trans O Oₚ
          have cFu26 : SF oz_C2clsl_6 F (updF (updF F22 0 16 ((a1 + 1))) 0 17 (y22_0_14)) := SF_upd (cFu25) rfl
          have mFu26 := SFm_of cFu26 oz_C2cls_16
          refine Ew_of (pcₚ := 120) (fun _ => x_aload_n rfl (rk_o (rk_o (rfl) rfl rfl) rfl rfl)) ?_
          refine Ew_of (pcₚ := 121) (fun _ => x_aload_n rfl (rk_o (rk_o (rfl) rfl rfl) rfl rfl)) ?_
          refine v_g H (o := 0) (v := I (y22_0_15)) rfl rfl rfl rfl rfl (congrArg (fun z : Int => I z) (((eF22 0 15).trans ey22_0_15) : (updF (updF F22 0 16 ((a1 + 1))) 0 17 (y22_0_14)) 0 15 = y22_0_15)) ?_
          refine v_p H (o := 0) (z := y22_0_15) (v := I (y22_0_15)) rfl rfl rfl rfl rfl rfl rfl rfl (show (-2147483648 : Int) ≤ y22_0_15 ∧ y22_0_15 ≤ 2147483647 from r24) (fun σ H Oₚ => ?_)
          have O := OUT_trans O Oₚ
          have cFu27 : SF oz_C2clsl_6 F (updF (updF (updF F22 0 16 ((a1 + 1))) 0 17 (y22_0_14)) 0 18 (y22_0_15)) := SF_upd (cFu26) rfl
          have mFu27 := SFm_of cFu27 oz_C2cls_16
          refine Ew_of (pcₚ := 128) (fun _ => x_aload_n rfl (rk_o (rk_o (rfl) rfl rfl) rfl rfl)) ?_
          refine Ew_of (pcₚ := 129) (fun _ => x_iload_n rfl (rk_o (rk_s) rfl rfl)) ?_
          refine v_p H (o := 0) (z := y15_0_14) (v := I (y15_0_14)) rfl rfl rfl rfl rfl rfl rfl rfl (show (-2147483648 : Int) ≤ y15_0_14 ∧ y15_0_14 ≤ 2147483647 from r16) (fun σ H Oₚ => ?_)
          have O := OUT_trans O Oₚ
          have cFu28 : SF oz_C2clsl_6 F (updF (updF (updF (updF F22 0 16 ((a1 + 1))) 0 17 (y22_0_14)) 0 18 (y22_0_15)) 0 14 (y15_0_14)) := SF_upd (cFu27) rfl
          have mFu28 := SFm_of cFu28 oz_C2cls_16
          refine Ew_of (pcₚ := 133) (fun _ => x_aload_n rfl (rk_o (rk_o (rfl) rfl rfl) rfl rfl)) ?_
          refine Ew_of (pcₚ := 134) (fun _ => x_iload_n rfl rk_s) ?_
          refine v_p H (o := 0) (z := y15_0_15) (v := I (y15_0_15)) rfl rfl rfl rfl rfl rfl rfl rfl (show (-2147483648 : Int) ≤ y15_0_15 ∧ y15_0_15 ≤ 2147483647 from r17) (fun σ H Oₚ => ?_)
          have O := OUT_trans O Oₚ
          have cFu29 : SF oz_C2clsl_6 F (updF (updF (updF (updF (updF F22 0 16 ((a1 + 1))) 0 17 (y22_0_14)) 0 18 (y22_0_15)) 0 14 (y15_0_14)) 0 15 (y15_0_15)) := SF_upd (cFu28) rfl
          have mFu29 := SFm_of cFu29 oz_C2cls_16
          refine Ew_of (pcₚ := 138) (fun _ => x_aload_n rfl (rk_o (rk_o (rfl) rfl rfl) rfl rfl)) ?_
          refine v_g H (o := 0) (v := I (y22_0_14)) rfl rfl rfl rfl rfl (congrArg (fun z : Int => I z) (rfl : (updF (updF (updF (updF (updF F22 0 16 ((a1 + 1))) 0 17 (y22_0_14)) 0 18 (y22_0_15)) 0 14 (y15_0_14)) 0 15 (y15_0_15)) 0 17 = y22_0_14)) ?_
          refine Ew_of (pcₚ := 142) (fun _ => x_iload_n rfl (rk_o (rk_s) rfl rfl)) ?_
          refine w_icmpgt (t := 149) rfl rfl (show inr (y22_0_14) from q_22 r23) (show inr (y15_0_14) from q_22 r16) (fun b30 => ?_) (fun b30 => ?_)
          · refine Ew_of (pcₚ := 150) (fun _ => x_iconst rfl) ?_
            exact w_ireturn rfl (k (0) _ _ _ H O (cFu29) (cA22) (y15_0_14) (rfl) (y15_0_15) (rfl) ((a1 + 1)) (rfl) (y22_0_14) (rfl) (y22_0_15) (rfl) (show (0) = 0 ∨ (0) = 1 by first | exact q_1 | omega) (show (0) = 1 → (u0_10) ≤ (y15_0_14) ∧ a1 + (y15_0_14) ≤ (u0_12) ∧ 1 ≤ (y15_0_15) ∧ (y15_0_15) ≤ a1 by first | exact q_2691 h0 h3 h4 r16 r17 r3 | omega) (show ((a1 + 1)) = -1 ∨ (y22_0_14) = 0 ∨ (u0_10) ≤ (y22_0_14) ∧ ((a1 + 1)) + (y22_0_14) ≤ (u0_12) ∧ 1 ≤ (y22_0_15) ∧ (y22_0_15) ≤ ((a1 + 1)) by first | exact q_2690 pz22_0 | omega))
          · refine Ew_of (pcₚ := 146) (fun _ => x_iconst rfl) ?_
            refine Ew_of (pcₚ := 150) (fun _ => x_goto rfl rfl) ?_
            exact w_ireturn rfl (k (1) _ _ _ H O (cFu29) (cA22) (y15_0_14) (rfl) (y15_0_15) (rfl) ((a1 + 1)) (rfl) (y22_0_14) (rfl) (y22_0_15) (rfl) (show (1) = 0 ∨ (1) = 1 by first | exact q_5 | omega) (show (1) = 1 → (u0_10) ≤ (y15_0_14) ∧ a1 + (y15_0_14) ≤ (u0_12) ∧ 1 ≤ (y15_0_15) ∧ (y15_0_15) ≤ a1 by omega) (show ((a1 + 1)) = -1 ∨ (y22_0_14) = 0 ∨ (u0_10) ≤ (y22_0_14) ∧ ((a1 + 1)) + (y22_0_14) ≤ (u0_12) ∧ 1 ≤ (y22_0_15) ∧ (y22_0_15) ≤ ((a1 + 1)) by first | exact q_2690 pz22_0 | omega))
        · exact hc74  _ _ _ _  (rfl) H O (SF_refl) (SA_refl)     (show ((y15_0_14) = (0)) ∨ ((y15_0_14) ≠ (0) ∧ (F 0 9) = (2)) ∨ ((y15_0_14) ≠ (0) ∧ (F 0 9) ≠ (2) ∧ ((a1 + 1)) > (u0_13)) from q_2692 b19 b20 b21)
  · refine Ew_of (pcₚ := 9) (fun _ => x_aload_n rfl rfl) ?_
    refine v_g H (o := 0) (v := I (F 0 9)) rfl rfl rfl rfl rfl (congrArg (fun z : Int => I z) (rfl : F 0 9 = F 0 9)) ?_
    refine Ew_of (pcₚ := 13) (fun _ => x_iconst rfl) ?_
    refine w_icmpne (t := 26) rfl rfl (show inr (F 0 9) from q_2693 b14 r13) (show inr (1) from q_23) (fun b31 => ?_) (fun b31 => ?_)
    · refine Ew_of (pcₚ := 27) (fun _ => x_aload_n rfl rfl) ?_
      refine Ew_of (pcₚ := 28) (fun _ => x_iload_n rfl rfl) ?_
      refine Ew_of (pcₚ := 29) (fun _ => x_aload_n rfl rfl) ?_
      refine v_g H (o := 0) (v := I (u0_10)) rfl rfl rfl rfl rfl (congrArg (fun z : Int => I z) ((eu0_10) : F 0 10 = u0_10)) ?_
      refine v_inv H (o := 0) rfl rfl rfl rfl rfl rfl (by rfl) (C129 (D := puc 403177984 D) (N := puc 403177984 N) (HW_subc H oz_C2cls_15 oz_C2cls_17) (pf1) (pf2) (pf3) (n2) (en2) (n3) (en3) (u0_6) ((eu0_6)) (u0_10) ((eu0_10)) (u0_12) ((eu0_12)) (u0_14) ((eu0_14)) (u0_15) ((eu0_15)) (u1_1) ((eu1_1)) (w2) (ew2) (w3) (ew3) (show inr (a1) from h0) (show inr (u0_10) from q_2629 h3) (show 0 ≤ (u1_1) ∧ (u1_1) ≤ (n2) ∧ (n2) ≤ 65536 ∧ (u1_1) ≤ 16384 from h1) (show (u0_12) ≤ (u1_1) from h2) (show 1 ≤ (u0_10) ∧ (u0_10) ≤ 8 from h3) (show 0 ≤ (a1) ∧ (a1) < (u0_6) from h4) (show (u0_6) ≤ (n3) ∧ (n3) ≤ 16384 from h5) (show BKI ((w2)) ((w3)) ((u0_10)) ((u0_6)) from h6) (show 1 ≤ (u0_10) from q_2694 h3) (fun z32 σ32 F32ₚ A32ₚ Hₚ Oₚ hS32 hA32 y32_0_14 ey32_0_14 y32_0_15 ey32_0_15 pz32_0 pz32_1 => ⟨rretB rfl pz32_0, ?_⟩))
      refine v_backc (c := c) (s := s) H oz_C2cls_15 oz_C2cls_17 Hₚ Oₚ (fun F32 A32 H Oₚ eF32 eA32 => ?_)
      have O := OUT_trans O Oₚ
      -- Finder.nearest
      have cF32 : SF oz_C2clsl_6 F F32 := SF_trans (SF_refl) (SF_gluc (ι := oz_C2clsl_7) oz_C2cls_17 hS32 eF32 (by decide +kernel)) (any_sub (lₚ := [(0, 14), (0, 15)]) (by decide +kernel))
      have mF32 := SFm_of cF32 oz_C2cls_16
      have cA32 : SA oz_C2clsl_4 A A32 := SA_trans (SA_refl) (SA_gluc (ι := oz_C2clsl_7) oz_C2cls_17 hA32 eA32 (by decide +kernel)) (any_subA (lₚ := []) (by decide +kernel))
      have mA32 := SAm_of cA32 oz_C2cls_7
      have r33 : (-2147483648 : Int) ≤ y32_0_14 ∧ y32_0_14 ≤ 2147483647 := rngE (show (-2147483648 : Int) ≤ F32 0 14 ∧ F32 0 14 ≤ 2147483647 from H.krg 0 14 (ltn len_V127_oz_C2cls rfl)) (show F32 0 14 = y32_0_14 from ((eF32 0 14).trans ey32_0_14))
      have r34 : (-2147483648 : Int) ≤ y32_0_15 ∧ y32_0_15 ≤ 2147483647 := rngE (show (-2147483648 : Int) ≤ F32 0 15 ∧ F32 0 15 ≤ 2147483647 from H.krg 0 15 (ltn len_V127_oz_C2cls rfl)) (show F32 0 15 = y32_0_15 from ((eF32 0 15).trans ey32_0_15))
      refine w_ifeq (t := 42) rfl rfl (show inr (z32) from q_15 pz32_0) (fun b35 => ?_) (fun b35 => ?_)
      · refine Ew_of (pcₚ := 43) (fun _ => x_iconst rfl) ?_
        exact w_ireturn rfl (k (0) _ _ _ H O (cF32) (cA32) (y32_0_14) (((eF32 0 14).trans ey32_0_14)) (y32_0_15) (((eF32 0 15).trans ey32_0_15)) (u0_16) ((((show F32 0 16 = F 0 16 from (eF32 0 16).trans (hS32 0 16 rfl))).trans (eu0_16))) (u0_17) ((((show F32 0 17 = F 0 17 from (eF32 0 17).trans (hS32 0 17 rfl))).trans (eu0_17))) (u0_18) ((((show F32 0 18 = F 0 18 from (eF32 0 18).trans (hS32 0 18 rfl))).trans (eu0_18))) (show (0) = 0 ∨ (0) = 1 by first | exact q_1 | omega) (show (0) = 1 → (u0_10) ≤ (y32_0_14) ∧ a1 + (y32_0_14) ≤ (u0_12) ∧ 1 ≤ (y32_0_15) ∧ (y32_0_15) ≤ a1 by first | exact q_2695 h0 h3 h4 r3 r33 r34 | omega) (show (u0_16) = -1 ∨ (u0_17) = 0 ∨ (u0_10) ≤ (u0_17) ∧ (u0_16) + (u0_17) ≤ (u0_12) ∧ 1 ≤ (u0_18) ∧ (u0_18) ≤ (u0_16) from h7))
      · refine Ew_of (pcₚ := 39) (fun _ => x_iconst rfl) ?_
        refine Ew_of (pcₚ := 43) (fun _ => x_goto rfl rfl) ?_
        exact w_ireturn rfl (k (1) _ _ _ H O (cF32) (cA32) (y32_0_14) (((eF32 0 14).trans ey32_0_14)) (y32_0_15) (((eF32 0 15).trans ey32_0_15)) (u0_16) ((((show F32 0 16 = F 0 16 from (eF32 0 16).trans (hS32 0 16 rfl))).trans (eu0_16))) (u0_17) ((((show F32 0 17 = F 0 17 from (eF32 0 17).trans (hS32 0 17 rfl))).trans (eu0_17))) (u0_18) ((((show F32 0 18 = F 0 18 from (eF32 0 18).trans (hS32 0 18 rfl))).trans (eu0_18))) (show (1) = 0 ∨ (1) = 1 by first | exact q_5 | omega) (show (1) = 1 → (u0_10) ≤ (y32_0_14) ∧ a1 + (y32_0_14) ≤ (u0_12) ∧ 1 ≤ (y32_0_15) ∧ (y32_0_15) ≤ a1 by first | exact q_2696 b35 pz32_0 pz32_1 | omega) (show (u0_16) = -1 ∨ (u0_17) = 0 ∨ (u0_10) ≤ (u0_17) ∧ (u0_16) + (u0_17) ≤ (u0_12) ∧ 1 ≤ (u0_18) ∧ (u0_18) ≤ (u0_16) from h7))
    · refine Ew_of (pcₚ := 17) (fun _ => x_aload_n rfl rfl) ?_
      refine Ew_of (pcₚ := 18) (fun _ => x_iload_n rfl rfl) ?_
      refine Ew_of (pcₚ := 20) (fun _ => x_bipush (z := 8) rfl (by decide)) ?_
      refine v_inv H (o := 0) rfl rfl rfl rfl rfl rfl (by rfl) (C129 (D := puc 403177984 D) (N := puc 403177984 N) (HW_subc H oz_C2cls_15 oz_C2cls_17) (pf1) (pf2) (pf3) (n2) (en2) (n3) (en3) (u0_6) ((eu0_6)) (u0_10) ((eu0_10)) (u0_12) ((eu0_12)) (u0_14) ((eu0_14)) (u0_15) ((eu0_15)) (u1_1) ((eu1_1)) (w2) (ew2) (w3) (ew3) (show inr (a1) from h0) (show inr (8) from q_96) (show 0 ≤ (u1_1) ∧ (u1_1) ≤ (n2) ∧ (n2) ≤ 65536 ∧ (u1_1) ≤ 16384 from h1) (show (u0_12) ≤ (u1_1) from h2) (show 1 ≤ (u0_10) ∧ (u0_10) ≤ 8 from h3) (show 0 ≤ (a1) ∧ (a1) < (u0_6) from h4) (show (u0_6) ≤ (n3) ∧ (n3) ≤ 16384 from h5) (show BKI ((w2)) ((w3)) ((u0_10)) ((u0_6)) from h6) (show 1 ≤ (8) from q_2697) (fun z36 σ36 F36ₚ A36ₚ Hₚ Oₚ hS36 hA36 y36_0_14 ey36_0_14 y36_0_15 ey36_0_15 pz36_0 pz36_1 => ⟨rretB rfl pz36_0, ?_⟩))
      refine v_backc (c := c) (s := s) H oz_C2cls_15 oz_C2cls_17 Hₚ Oₚ (fun F36 A36 H Oₚ eF36 eA36 => ?_)
      have O := OUT_trans O Oₚ
      -- Finder.nearest
      have cF36 : SF oz_C2clsl_6 F F36 := SF_trans (SF_refl) (SF_gluc (ι := oz_C2clsl_7) oz_C2cls_17 hS36 eF36 (by decide +kernel)) (any_sub (lₚ := [(0, 14), (0, 15)]) (by decide +kernel))
      have mF36 := SFm_of cF36 oz_C2cls_16
      have cA36 : SA oz_C2clsl_4 A A36 := SA_trans (SA_refl) (SA_gluc (ι := oz_C2clsl_7) oz_C2cls_17 hA36 eA36 (by decide +kernel)) (any_subA (lₚ := []) (by decide +kernel))
      have mA36 := SAm_of cA36 oz_C2cls_7
      have r37 : (-2147483648 : Int) ≤ y36_0_14 ∧ y36_0_14 ≤ 2147483647 := rngE (show (-2147483648 : Int) ≤ F36 0 14 ∧ F36 0 14 ≤ 2147483647 from H.krg 0 14 (ltn len_V127_oz_C2cls rfl)) (show F36 0 14 = y36_0_14 from ((eF36 0 14).trans ey36_0_14))
      have r38 : (-2147483648 : Int) ≤ y36_0_15 ∧ y36_0_15 ≤ 2147483647 := rngE (show (-2147483648 : Int) ≤ F36 0 15 ∧ F36 0 15 ≤ 2147483647 from H.krg 0 15 (ltn len_V127_oz_C2cls rfl)) (show F36 0 15 = y36_0_15 from ((eF36 0 15).trans ey36_0_15))
      refine w_ifne (t := 38) rfl rfl (show inr (z36) from q_15 pz36_0) (fun b39 => ?_) (fun b39 => ?_)
      · refine Ew_of (pcₚ := 39) (fun _ => x_iconst rfl) ?_
        refine Ew_of (pcₚ := 43) (fun _ => x_goto rfl rfl) ?_
        exact w_ireturn rfl (k (1) _ _ _ H O (cF36) (cA36) (y36_0_14) (((eF36 0 14).trans ey36_0_14)) (y36_0_15) (((eF36 0 15).trans ey36_0_15)) (u0_16) ((((show F36 0 16 = F 0 16 from (eF36 0 16).trans (hS36 0 16 rfl))).trans (eu0_16))) (u0_17) ((((show F36 0 17 = F 0 17 from (eF36 0 17).trans (hS36 0 17 rfl))).trans (eu0_17))) (u0_18) ((((show F36 0 18 = F 0 18 from (eF36 0 18).trans (hS36 0 18 rfl))).trans (eu0_18))) (show (1) = 0 ∨ (1) = 1 by first | exact q_5 | omega) (show (1) = 1 → (u0_10) ≤ (y36_0_14) ∧ a1 + (y36_0_14) ≤ (u0_12) ∧ 1 ≤ (y36_0_15) ∧ (y36_0_15) ≤ a1 by first | exact q_2698 b39 h3 pz36_0 pz36_1 | omega) (show (u0_16) = -1 ∨ (u0_17) = 0 ∨ (u0_10) ≤ (u0_17) ∧ (u0_16) + (u0_17) ≤ (u0_12) ∧ 1 ≤ (u0_18) ∧ (u0_18) ≤ (u0_16) from h7))
      · refine Ew_of (pcₚ := 27) (fun _ => x_aload_n rfl rfl) ?_
        refine Ew_of (pcₚ := 28) (fun _ => x_iload_n rfl rfl) ?_
        refine Ew_of (pcₚ := 29) (fun _ => x_aload_n rfl rfl) ?_
        refine v_g H (o := 0) (v := I (u0_10)) rfl rfl rfl rfl rfl (congrArg (fun z : Int => I z) (((mF36 0 10 rfl).trans (eu0_10)) : F36 0 10 = u0_10)) ?_
        refine v_inv H (o := 0) rfl rfl rfl rfl rfl rfl (by rfl) (C129 (D := puc 403177984 D) (N := puc 403177984 N) (HW_subc H oz_C2cls_15 oz_C2cls_17) ((mF36 0 0 rfl).trans (pf1)) ((mF36 1 0 rfl).trans (pf2)) ((mF36 0 8 rfl).trans (pf3)) (n2) (en2) (n3) (en3) (u0_6) (((mF36 0 6 rfl).trans (eu0_6))) (u0_10) (((mF36 0 10 rfl).trans (eu0_10))) (u0_12) (((mF36 0 12 rfl).trans (eu0_12))) (y36_0_14) (((eF36 0 14).trans ey36_0_14)) (y36_0_15) (((eF36 0 15).trans ey36_0_15)) (u1_1) (((mF36 1 1 rfl).trans (eu1_1))) (w2) ((funext (mA36 2 rfl)).trans (ew2)) (w3) ((funext (mA36 3 rfl)).trans (ew3)) (show inr (a1) from h0) (show inr (u0_10) from q_2629 h3) (show 0 ≤ (u1_1) ∧ (u1_1) ≤ (n2) ∧ (n2) ≤ 65536 ∧ (u1_1) ≤ 16384 from h1) (show (u0_12) ≤ (u1_1) from h2) (show 1 ≤ (u0_10) ∧ (u0_10) ≤ 8 from h3) (show 0 ≤ (a1) ∧ (a1) < (u0_6) from h4) (show (u0_6) ≤ (n3) ∧ (n3) ≤ 16384 from h5) (show BKI ((w2)) ((w3)) ((u0_10)) ((u0_6)) from h6) (show 1 ≤ (u0_10) from q_2694 h3) (fun z40 σ40 F40ₚ A40ₚ Hₚ Oₚ hS40 hA40 y40_0_14 ey40_0_14 y40_0_15 ey40_0_15 pz40_0 pz40_1 => ⟨rretB rfl pz40_0, ?_⟩))
        refine v_backc (c := c) (s := s) H oz_C2cls_15 oz_C2cls_17 Hₚ Oₚ (fun F40 A40 H Oₚ eF40 eA40 => ?_)
        have O := OUT_trans O Oₚ
        -- Finder.nearest
        have cF40 : SF oz_C2clsl_6 F F40 := SF_trans (cF36) (SF_gluc (ι := oz_C2clsl_7) oz_C2cls_17 hS40 eF40 (by decide +kernel)) (any_sub (lₚ := [(0, 14), (0, 15)]) (by decide +kernel))
        have mF40 := SFm_of cF40 oz_C2cls_16
        have cA40 : SA oz_C2clsl_4 A A40 := SA_trans (cA36) (SA_gluc (ι := oz_C2clsl_7) oz_C2cls_17 hA40 eA40 (by decide +kernel)) (any_subA (lₚ := []) (by decide +kernel))
        have mA40 := SAm_of cA40 oz_C2cls_7
        have r41 : (-2147483648 : Int) ≤ y40_0_14 ∧ y40_0_14 ≤ 2147483647 := rngE (show (-2147483648 : Int) ≤ F40 0 14 ∧ F40 0 14 ≤ 2147483647 from H.krg 0 14 (ltn len_V127_oz_C2cls rfl)) (show F40 0 14 = y40_0_14 from ((eF40 0 14).trans ey40_0_14))
        have r42 : (-2147483648 : Int) ≤ y40_0_15 ∧ y40_0_15 ≤ 2147483647 := rngE (show (-2147483648 : Int) ≤ F40 0 15 ∧ F40 0 15 ≤ 2147483647 from H.krg 0 15 (ltn len_V127_oz_C2cls rfl)) (show F40 0 15 = y40_0_15 from ((eF40 0 15).trans ey40_0_15))
        refine w_ifeq (t := 42) rfl rfl (show inr (z40) from q_15 pz40_0) (fun b43 => ?_) (fun b43 => ?_)
        · refine Ew_of (pcₚ := 43) (fun _ => x_iconst rfl) ?_
          exact w_ireturn rfl (k (0) _ _ _ H O (cF40) (cA40) (y40_0_14) (((eF40 0 14).trans ey40_0_14)) (y40_0_15) (((eF40 0 15).trans ey40_0_15)) (u0_16) (((((show F40 0 16 = F36 0 16 from (eF40 0 16).trans (hS40 0 16 rfl))).trans ((show F36 0 16 = F 0 16 from (eF36 0 16).trans (hS36 0 16 rfl)))).trans (eu0_16))) (u0_17) (((((show F40 0 17 = F36 0 17 from (eF40 0 17).trans (hS40 0 17 rfl))).trans ((show F36 0 17 = F 0 17 from (eF36 0 17).trans (hS36 0 17 rfl)))).trans (eu0_17))) (u0_18) (((((show F40 0 18 = F36 0 18 from (eF40 0 18).trans (hS40 0 18 rfl))).trans ((show F36 0 18 = F 0 18 from (eF36 0 18).trans (hS36 0 18 rfl)))).trans (eu0_18))) (show (0) = 0 ∨ (0) = 1 by first | exact q_1 | omega) (show (0) = 1 → (u0_10) ≤ (y40_0_14) ∧ a1 + (y40_0_14) ≤ (u0_12) ∧ 1 ≤ (y40_0_15) ∧ (y40_0_15) ≤ a1 by first | exact q_2695 h0 h3 h4 r3 r41 r42 | omega) (show (u0_16) = -1 ∨ (u0_17) = 0 ∨ (u0_10) ≤ (u0_17) ∧ (u0_16) + (u0_17) ≤ (u0_12) ∧ 1 ≤ (u0_18) ∧ (u0_18) ≤ (u0_16) from h7))
        · refine Ew_of (pcₚ := 39) (fun _ => x_iconst rfl) ?_
          refine Ew_of (pcₚ := 43) (fun _ => x_goto rfl rfl) ?_
          exact w_ireturn rfl (k (1) _ _ _ H O (cF40) (cA40) (y40_0_14) (((eF40 0 14).trans ey40_0_14)) (y40_0_15) (((eF40 0 15).trans ey40_0_15)) (u0_16) (((((show F40 0 16 = F36 0 16 from (eF40 0 16).trans (hS40 0 16 rfl))).trans ((show F36 0 16 = F 0 16 from (eF36 0 16).trans (hS36 0 16 rfl)))).trans (eu0_16))) (u0_17) (((((show F40 0 17 = F36 0 17 from (eF40 0 17).trans (hS40 0 17 rfl))).trans ((show F36 0 17 = F 0 17 from (eF36 0 17).trans (hS36 0 17 rfl)))).trans (eu0_17))) (u0_18) (((((show F40 0 18 = F36 0 18 from (eF40 0 18).trans (hS40 0 18 rfl))).trans ((show F36 0 18 = F 0 18 from (eF36 0 18).trans (hS36 0 18 rfl)))).trans (eu0_18))) (show (1) = 0 ∨ (1) = 1 by first | exact q_5 | omega) (show (1) = 1 → (u0_10) ≤ (y40_0_14) ∧ a1 + (y40_0_14) ≤ (u0_12) ∧ 1 ≤ (y40_0_15) ∧ (y40_0_15) ≤ a1 by first | exact q_2696 b43 pz40_0 pz40_1 | omega) (show (u0_16) = -1 ∨ (u0_17) = 0 ∨ (u0_10) ≤ (u0_17) ∧ (u0_16) + (u0_17) ≤ (u0_12) ∧ 1 ≤ (u0_18) ∧ (u0_18) ≤ (u0_16) from h7))
