abbrev V124 : vV := [(0, 5, [(4, 0), (4, 0), (4, 0), (4, 0), (0, 0), (0, 0), (0, 0), (4, 0), (4, 0), (0, 0), (0, 0), (0, 0), (0, 0), (0, 0), (0, 0), (0, 0), (0, 0), (0, 0), (0, 0)]), (0, 7, [(4, 0), (0, 0), (1, 0), (0, 0), (0, 0)]), (1, 0, []), (1, 1, []), (1, 1, [])]
/-- Finder.unlay: this, this.data, this.data.bytes, this.back, this.heads -/
theorem C124 {σE : rS} {D N : Nat → Nat} {F : hF} {A : hA} {d c s : Nat} {Q : wQ} (H : HW V124 σE D N F A) {a1 : Int} (pf1 : F 0 0 = (D 1 : Int)) (pf2 : F 1 0 = (D 2 : Int)) (pf3 : F 0 8 = (D 3 : Int)) (pf4 : F 0 7 = (D 4 : Int)) (n2 : Int) (en2 : (N 2 : Int) = n2) (n3 : Int) (en3 : (N 3 : Int) = n3) (n4 : Int) (en4 : (N 4 : Int) = n4) (u0_6 : Int) (eu0_6 : F 0 6 = u0_6) (u0_10 : Int) (eu0_10 : F 0 10 = u0_10) (u1_1 : Int) (eu1_1 : F 1 1 = u1_1) (w2 : Int → Int) (ew2 : A 2 = w2) (w3 : Int → Int) (ew3 : A 3 = w3) (w4 : Int → Int) (ew4 : A 4 = w4) (h0 : inr (a1)) (h1 : 0 ≤ (u1_1) ∧ (u1_1) ≤ (n2) ∧ (n2) ≤ 65536 ∧ (u1_1) ≤ 16384) (h2 : 1 ≤ (u0_10) ∧ (u0_10) ≤ 8) (h3 : 0 ≤ (a1) ∧ (a1) ≤ (u0_6)) (h4 : (u0_6) = 0 ∨ (u0_6) + (u0_10) ≤ (u1_1) + 1) (h5 : BKI ((w2)) ((w3)) ((u0_10)) ((u0_6))) (h6 : HDI ((w2)) ((w4)) ((u0_10)) ((u0_6))) (h7 : (n4) = 2048) (h8 : 0 ≤ (u0_6) ∧ (u0_6) ≤ (n3) ∧ (n3) ≤ 16384) (k : ∀ (σ : rS) (F' : hF) (A' : hA), HW V124 σ D N F' A' → OUT (V124).length D N σE c s D N σ c s → SF [(0, 6)] F F' → SA [4] A A' → ∀ y0_6 : Int, F' 0 6 = y0_6 → ∀ v4 : Int → Int, A' 4 = v4 → ((y0_6) = (a1)) → (BKI ((w2)) ((w3)) ((u0_10)) ((y0_6))) → (HDI ((w2)) ((v4)) ((u0_10)) ((y0_6))) → Q none σ c s) : Ew 124 (d + 1) 0 (rargs 0 [.ref (D 0), I a1]) [] σE c s Q := by
  have O := OUT_refl (n := (V124).length) (D := D) (N := N) (σ := σE) (c := c) (s := s)
  have HE := H
  have r1 : (-2147483648 : Int) ≤ u0_6 ∧ u0_6 ≤ 2147483647 := by have h1 : (-2147483648 : Int) ≤ F 0 6 ∧ F 0 6 ≤ 2147483647 := H.krg 0 6 (by decide); rw [show F 0 6 = u0_6 from (eu0_6)] at h1; exact h1
  have r2 : (-2147483648 : Int) ≤ u0_10 ∧ u0_10 ≤ 2147483647 := by have h1 : (-2147483648 : Int) ≤ F 0 10 ∧ F 0 10 ≤ 2147483647 := H.krg 0 10 (by decide); rw [show F 0 10 = u0_10 from (eu0_10)] at h1; exact h1
  have r3 : (-2147483648 : Int) ≤ u1_1 ∧ u1_1 ≤ 2147483647 := by have h1 : (-2147483648 : Int) ≤ F 1 1 ∧ F 1 1 ≤ 2147483647 := H.krg 1 1 (by decide); rw [show F 1 1 = u1_1 from (eu1_1)] at h1; exact h1
  have r4 : (0 : Int) ≤ n2 ∧ n2 ≤ 1000000 := by have h1 := H.nle 2 (by decide); have h2 : (N 2 : Int) = n2 := en2; omega
  have r5 : (0 : Int) ≤ n3 ∧ n3 ≤ 1000000 := by have h1 := H.nle 3 (by decide); have h2 : (N 3 : Int) = n3 := en3; omega
  have r6 : (0 : Int) ≤ n4 ∧ n4 ≤ 1000000 := by have h1 := H.nle 4 (by decide); have h2 : (N 4 : Int) = n4 := en4; omega
  suffices hl0 : ∀ (m : Nat), ∀ (ls : rO) (σ : rS) (F_0 : hF) (A_0 : hA) , rlook ls 0 = some (.ref (D 0)) → rlook ls 1 = some (I (a1)) → HW V124 σ D N F_0 A_0 → OUT (V124).length D N σE c s D N σ c s → SF [(0, 6)] F F_0 → SA [4] A A_0 → ∀ y0_0_6 : Int, F_0 0 6 = y0_0_6 → ∀ w0_4 : Int → Int, A_0 4 = w0_4 → ((a1) ≤ (y0_0_6) ∧ (y0_0_6) ≤ (u0_6)) → (BKI ((w2)) ((w3)) ((u0_10)) ((y0_0_6))) → (HDI ((w2)) ((w0_4)) ((u0_10)) ((y0_0_6))) → ((y0_0_6) - (a1)).toNat = m → Ew 124 (d + 1) 0 ls [] σ c s Q from
    hl0 _ _ _ _ _  (rfl) (rfl) H O (SF_refl) (SA_refl)   (u0_6) ((eu0_6)) (w4) (ew4) (show (a1) ≤ (u0_6) ∧ (u0_6) ≤ (u0_6) by omega) (show BKI ((w2)) ((w3)) ((u0_10)) ((u0_6)) by assumption) (show HDI ((w2)) ((w4)) ((u0_10)) ((u0_6)) by assumption) rfl
  as_aux_lemma =>
  intro m
  induction m using Nat.strongRecOn with
  | _ m ih0 =>
    intro ls σ F_0 A_0  l0_0 l0_1 H O hS_0 hA_0   y0_0_6 ey0_0_6 w0_4 ew0_4 j0_0 j0_1 j0_2 hm0
    have r7 : (-2147483648 : Int) ≤ y0_0_6 ∧ y0_0_6 ≤ 2147483647 := by have h1 : (-2147483648 : Int) ≤ F_0 0 6 ∧ F_0 0 6 ≤ 2147483647 := H.krg 0 6 (by decide); rw [show F_0 0 6 = y0_0_6 from (ey0_0_6)] at h1; exact h1
    have j0_b : BKI ((w2)) ((w3)) ((u0_10)) ((y0_0_6)) := by assumption
    have j0_h : HDI ((w2)) ((w0_4)) ((u0_10)) ((y0_0_6)) := by assumption
    refine Ew_of (pc' := 1) (fun _ => x_aload_n rfl l0_0) ?_
    refine v_g H (o := 0) (v := I (y0_0_6)) rfl rfl rfl rfl rfl (congrArg (fun z : Int => I z) ((ey0_0_6) : F_0 0 6 = y0_0_6)) ?_
    refine Ew_of (pc' := 5) (fun _ => x_iload_n rfl l0_1) ?_
    refine w_icmple (t := 47) rfl rfl (show inr (y0_0_6) by omega) (show inr (a1) by omega) (fun b8 => ?_) (fun b8 => ?_)
    · exact w_ret rfl (k _ _ _ H O (SF_trans (SF_refl) hS_0 (any_sub rfl)) (SA_trans (SA_refl) hA_0 (any_subA rfl)) (y0_0_6) ((ey0_0_6)) (w0_4) (ew0_4) (show (y0_0_6) = a1 by omega) (show BKI ((w2)) ((w3)) ((u0_10)) ((y0_0_6)) by assumption) (show HDI ((w2)) ((w0_4)) ((u0_10)) ((y0_0_6)) by assumption))
    · refine Ew_of (pc' := 9) (fun _ => x_aload_n rfl l0_0) ?_
      refine v_g H (o := 0) (v := .ref (D 4)) rfl rfl rfl rfl rfl (vrf (((hS_0 0 7 rfl)).trans (pf4))) ?_
      refine Ew_of (pc' := 13) (fun _ => x_aload_n rfl l0_0) ?_
      refine Ew_of (pc' := 14) (fun _ => x_aload_n rfl l0_0) ?_
      refine v_g H (o := 0) (v := I (y0_0_6)) rfl rfl rfl rfl rfl (congrArg (fun z : Int => I z) ((ey0_0_6) : F_0 0 6 = y0_0_6)) ?_
      refine Ew_of (pc' := 18) (fun _ => x_iconst rfl) ?_
      refine w_isub rfl ?_
      refine v_inv H (o := 0) rfl rfl rfl rfl rfl rfl (by rfl) (C122 (D := pul [0, 1, 2] D) (N := pul [0, 1, 2] N) (HW_sub H (VS_of (show vsub V124 V122 [0, 1, 2] = true by decide +kernel))) (((hS_0 0 0 rfl)).trans (pf1)) (((hS_0 1 0 rfl)).trans (pf2)) (n2) (en2) (u0_10) (((hS_0 0 10 rfl).trans (eu0_10))) (u1_1) (((hS_0 1 1 rfl).trans (eu1_1))) (w2) ((funext (hA_0 2 rfl)).trans (ew2)) (show inr ((y0_0_6 - 1)) by omega) (show 0 ≤ (u1_1) ∧ (u1_1) ≤ (n2) ∧ (n2) ≤ 65536 ∧ (u1_1) ≤ 16384 by omega) (show 1 ≤ (u0_10) ∧ (u0_10) ≤ 8 by omega) (show 0 ≤ ((y0_0_6 - 1)) ∧ ((y0_0_6 - 1)) + (u0_10) ≤ (u1_1) by omega) (fun z9 σ9 F9' A9' H' O' hS9 hA9 pz9_0 pz9_1 pz9_2 => ⟨rfl, ?_⟩))
      refine v_back (c := c) (s := s) H (show vsub V124 V122 [0, 1, 2] = true by decide +kernel) H' O' (fun F9 A9 H O' eF9 eA9 => ?_)
      have O := OUT_trans O O'
      -- Finder.hashAt
      refine Ew_of (pc' := 23) (fun _ => x_aload_n rfl l0_0) ?_
      refine v_g H (o := 0) (v := .ref (D 3)) rfl rfl rfl rfl rfl (vrf (((((show F9 0 8 = F_0 0 8 from (eF9 0 8).trans (hS9 0 8 rfl))).trans (hS_0 0 8 rfl))).trans (pf3))) ?_
      refine Ew_of (pc' := 27) (fun _ => x_aload_n rfl l0_0) ?_
      refine v_g H (o := 0) (v := I (y0_0_6)) rfl rfl rfl rfl rfl (congrArg (fun z : Int => I z) ((((show F9 0 6 = F_0 0 6 from (eF9 0 6).trans (hS9 0 6 rfl))).trans (ey0_0_6)) : F9 0 6 = y0_0_6)) ?_
      refine Ew_of (pc' := 31) (fun _ => x_iconst rfl) ?_
      refine w_isub rfl ?_
      refine v_lI H (o := 3) rfl rfl rfl rfl (n := n3) (en3) (show 0 ≤ (y0_0_6 - 1) ∧ (y0_0_6 - 1) < n3 by omega) (fun v10 ev10 qv10 => ?_)
      have ev10 : (w3) ((y0_0_6 - 1)) = v10 := (congrFun (((show A9 3 = A_0 3 from (eA9 3))).trans ((funext (hA_0 3 rfl)).trans (ew3))) ((y0_0_6 - 1))).symm.trans ev10
      have hbv := ev10
      have hwb := j0_b ((y0_0_6) - 1) (by omega) (by omega)
      have hhn : HDI ((w2)) (upd1 ((w0_4)) ((z9)) ((v10))) ((u0_10)) ((y0_0_6) - 1) := HDI_un j0_h j0_b rfl (by omega) pz9_2 hbv.symm
      have hbn : BKI ((w2)) ((w3)) ((u0_10)) ((y0_0_6) - 1) := BKI_le j0_b (by omega)
      refine v_sI H (o := 4) (z := v10) rfl rfl rfl rfl (n := n4) (en4) (show 0 ≤ z9 ∧ z9 < n4 by omega) (show inr (v10) by omega) (fun σ H O' => ?_)
      have O := OUT_trans O O'
      refine Ew_of (pc' := 35) (fun _ => x_aload_n rfl l0_0) ?_
      refine Ew_of (pc' := 36) (fun _ => x_dup rfl rfl) ?_
      refine v_g H (o := 0) (v := I (y0_0_6)) rfl rfl rfl rfl rfl (congrArg (fun z : Int => I z) ((((show F9 0 6 = F_0 0 6 from (eF9 0 6).trans (hS9 0 6 rfl))).trans (ey0_0_6)) : F9 0 6 = y0_0_6)) ?_
      refine Ew_of (pc' := 40) (fun _ => x_iconst rfl) ?_
      refine w_isub rfl ?_
      refine v_p H (o := 0) (z := (y0_0_6 - 1)) (v := I ((y0_0_6 - 1))) rfl rfl rfl rfl rfl rfl rfl rfl (show (-2147483648 : Int) ≤ (y0_0_6 - 1) ∧ (y0_0_6 - 1) ≤ 2147483647 by omega) (fun σ H O' => ?_)
      have O := OUT_trans O O'
      refine Ew_of (pc' := 0) (fun _ => x_goto rfl rfl) ?_
      exact ih0 _ (by omega) _ _ _ _  (l0_0) (l0_1) H O (SF_upd (SF_trans (hS_0) (SF_glu (ι := [0, 1, 2]) hS9 eF9 (by decide +kernel)) (any_sub (l' := []) rfl)) rfl) (SA_upd (SA_trans (hA_0) (SA_glu (ι := [0, 1, 2]) hA9 eA9 (by decide +kernel)) (any_subA (l' := []) rfl)) rfl)   ((y0_0_6 - 1)) (rfl) (upd1 (w0_4) (z9) (v10)) (congrArg (fun q => upd1 q (z9) (v10)) (((show A9 4 = A_0 4 from (eA9 4))).trans (ew0_4))) (show (a1) ≤ ((y0_0_6 - 1)) ∧ ((y0_0_6 - 1)) ≤ (u0_6) by omega) (show BKI ((w2)) ((w3)) ((u0_10)) (((y0_0_6 - 1))) by assumption) (show HDI ((w2)) ((upd1 (w0_4) (z9) (v10))) ((u0_10)) (((y0_0_6 - 1))) by assumption) rfl
abbrev V128 : vV := [(0, 5, [(4, 0), (4, 0), (4, 0), (4, 0), (0, 0), (0, 0), (0, 0), (4, 0), (4, 0), (0, 0), (0, 0), (0, 0), (0, 0), (0, 0), (0, 0), (0, 0), (0, 0), (0, 0), (0, 0)]), (0, 7, [(4, 0), (0, 0), (1, 0), (0, 0), (0, 0)]), (1, 0, [])]
/-- Finder.common: this, this.data, this.data.bytes -/
theorem C128 {σE : rS} {D N : Nat → Nat} {F : hF} {A : hA} {d c s : Nat} {Q : wQ} (H : HW V128 σE D N F A) {a1 a2 : Int} (pf1 : F 0 0 = (D 1 : Int)) (pf2 : F 1 0 = (D 2 : Int)) (n2 : Int) (en2 : (N 2 : Int) = n2) (u0_12 : Int) (eu0_12 : F 0 12 = u0_12) (u1_1 : Int) (eu1_1 : F 1 1 = u1_1) (w2 : Int → Int) (ew2 : A 2 = w2) (h0 : inr (a1)) (h1 : inr (a2)) (h2 : 0 ≤ (u1_1) ∧ (u1_1) ≤ (n2) ∧ (n2) ≤ 65536 ∧ (u1_1) ≤ 16384) (h3 : (u0_12) ≤ (u1_1)) (h4 : 0 ≤ (a1) ∧ (a1) ≤ (a2) ∧ (a2) ≤ 16384) (k : ∀ (z : Int) (σ : rS) (F' : hF) (A' : hA), HW V128 σ D N F' A' → OUT (V128).length D N σE c s D N σ c s → SF [] F F' → SA [] A A' → (inr (z)) → (0 ≤ (z)) → ((z) = 0 ∨ (a2) + (z) ≤ (u0_12)) → ((z) = cpl ((w2)) ((a1)) ((a2)) ((u0_12))) → Q (some (I z)) σ c s) : Ew 128 (d + 0) 0 (rargs 0 [.ref (D 0), I a1, I a2]) [] σE c s Q := by
  have O := OUT_refl (n := (V128).length) (D := D) (N := N) (σ := σE) (c := c) (s := s)
  have HE := H
  have r1 : (-2147483648 : Int) ≤ u0_12 ∧ u0_12 ≤ 2147483647 := by have h1 : (-2147483648 : Int) ≤ F 0 12 ∧ F 0 12 ≤ 2147483647 := H.krg 0 12 (by decide); rw [show F 0 12 = u0_12 from (eu0_12)] at h1; exact h1
  have r2 : (-2147483648 : Int) ≤ u1_1 ∧ u1_1 ≤ 2147483647 := by have h1 : (-2147483648 : Int) ≤ F 1 1 ∧ F 1 1 ≤ 2147483647 := H.krg 1 1 (by decide); rw [show F 1 1 = u1_1 from (eu1_1)] at h1; exact h1
  have r3 : (0 : Int) ≤ n2 ∧ n2 ≤ 1000000 := by have h1 := H.nle 2 (by decide); have h2 : (N 2 : Int) = n2 := en2; omega
  refine Ew_of (pc' := 1) (fun _ => x_iconst rfl) ?_
  refine Ew_of (pc' := 2) (fun _ => x_istore_n rfl) ?_
  have : EQB ((w2)) ((a1)) ((a2)) (0) := EQB_0
  suffices hl2 : ∀ (m : Nat), ∀ (ls : rO) (σ : rS) (F_2 : hF) (A_2 : hA) (x2_3 : Int), rlook ls 0 = some (.ref (D 0)) → rlook ls 1 = some (I (a1)) → rlook ls 2 = some (I (a2)) → rlook ls 3 = some (I (x2_3)) → HW V128 σ D N F_2 A_2 → OUT (V128).length D N σE c s D N σ c s → SF [] F F_2 → SA [] A A_2 → (inr (x2_3)) → (0 ≤ (x2_3)) → ((x2_3) = 0 ∨ (a2) + (x2_3) ≤ (u0_12)) → ((x2_3) ≤ 16384) → (EQB ((w2)) ((a1)) ((a2)) ((x2_3))) → ((u0_12) - (a2) - (x2_3)).toNat = m → Ew 128 (d + 0) 2 ls [] σ c s Q from
    hl2 _ _ _ _ _ (0) (rk_o (rfl) rfl rfl) (rk_o (rfl) rfl rfl) (rk_o (rfl) rfl rfl) (rk_s) H O (SF_refl) (SA_refl)     (show inr (0) by omega) (show 0 ≤ (0) by omega) (show (0) = 0 ∨ (a2) + (0) ≤ (u0_12) by omega) (show (0) ≤ 16384 by omega) (show EQB ((w2)) ((a1)) ((a2)) ((0)) by assumption) rfl
  as_aux_lemma =>
  intro m
  induction m using Nat.strongRecOn with
  | _ m ih2 =>
    intro ls σ F_2 A_2 x2_3 l2_0 l2_1 l2_2 l2_3 H O hS_2 hA_2     j2_0 j2_1 j2_2 j2_3 j2_4 hm2
    have j2_q : EQB ((w2)) ((a1)) ((a2)) ((x2_3)) := by assumption
    refine Ew_of (pc' := 3) (fun _ => x_iload_n rfl l2_2) ?_
    refine Ew_of (pc' := 4) (fun _ => x_iload_n rfl l2_3) ?_
    refine w_iadd rfl ?_
    refine Ew_of (pc' := 6) (fun _ => x_aload_n rfl l2_0) ?_
    refine v_g H (o := 0) (v := I (u0_12)) rfl rfl rfl rfl rfl (congrArg (fun z : Int => I z) (((hS_2 0 12 rfl).trans (eu0_12)) : F_2 0 12 = u0_12)) ?_
    refine w_icmpge (t := 43) rfl rfl (show inr ((a2 + x2_3)) by omega) (show inr (u0_12) by omega) (fun b4 => ?_) (fun b4 => ?_)
    · have : (x2_3) = cpl ((w2)) ((a1)) ((a2)) ((u0_12)) := (cpl_is (by omega) (by omega) j2_q (by first | exact .inl (by omega) | exact .inr (by rw [hb1, hb2]; omega))).symm
      refine Ew_of (pc' := 44) (fun _ => x_iload_n rfl l2_3) ?_
      exact w_ireturn rfl (k (x2_3) _ _ _ H O (SF_trans (SF_refl) hS_2 (any_sub rfl)) (SA_trans (SA_refl) hA_2 (any_subA rfl)) (show inr (x2_3) by omega) (show 0 ≤ (x2_3) by omega) (show (x2_3) = 0 ∨ a2 + (x2_3) ≤ (u0_12) by omega) (show (x2_3) = cpl ((w2)) (a1) (a2) ((u0_12)) by assumption))
    · refine Ew_of (pc' := 13) (fun _ => x_aload_n rfl l2_0) ?_
      refine v_g H (o := 0) (v := .ref (D 1)) rfl rfl rfl rfl rfl (vrf (((hS_2 0 0 rfl)).trans (pf1))) ?_
      refine v_g H (o := 1) (v := .ref (D 2)) rfl rfl rfl rfl rfl (vrf (((hS_2 1 0 rfl)).trans (pf2))) ?_
      refine Ew_of (pc' := 20) (fun _ => x_iload_n rfl l2_1) ?_
      refine Ew_of (pc' := 21) (fun _ => x_iload_n rfl l2_3) ?_
      refine w_iadd rfl ?_
      refine v_lB H (o := 2) rfl rfl rfl rfl (n := n2) (en2) (show 0 ≤ (a1 + x2_3) ∧ (a1 + x2_3) < n2 by omega) (fun v5 ev5 qv5 => ?_)
      have ev5 : (w2) ((a1 + x2_3)) = v5 := (congrFun ((funext (hA_2 2 rfl)).trans (ew2)) ((a1 + x2_3))).symm.trans ev5
      refine Ew_of (pc' := 24) (fun _ => x_aload_n rfl l2_0) ?_
      refine v_g H (o := 0) (v := .ref (D 1)) rfl rfl rfl rfl rfl (vrf (((hS_2 0 0 rfl)).trans (pf1))) ?_
      refine v_g H (o := 1) (v := .ref (D 2)) rfl rfl rfl rfl rfl (vrf (((hS_2 1 0 rfl)).trans (pf2))) ?_
      refine Ew_of (pc' := 31) (fun _ => x_iload_n rfl l2_2) ?_
      refine Ew_of (pc' := 32) (fun _ => x_iload_n rfl l2_3) ?_
      refine w_iadd rfl ?_
      refine v_lB H (o := 2) rfl rfl rfl rfl (n := n2) (en2) (show 0 ≤ (a2 + x2_3) ∧ (a2 + x2_3) < n2 by omega) (fun v6 ev6 qv6 => ?_)
      have ev6 : (w2) ((a2 + x2_3)) = v6 := (congrFun ((funext (hA_2 2 rfl)).trans (ew2)) ((a2 + x2_3))).symm.trans ev6
      have hb1 := ev5
      have hb2 := ev6
      refine w_icmpne (t := 43) rfl rfl (show inr (v5) by omega) (show inr (v6) by omega) (fun b7 => ?_) (fun b7 => ?_)
      · have : (x2_3) = cpl ((w2)) ((a1)) ((a2)) ((u0_12)) := (cpl_is (by omega) (by omega) j2_q (by first | exact .inl (by omega) | exact .inr (by rw [hb1, hb2]; omega))).symm
        refine Ew_of (pc' := 44) (fun _ => x_iload_n rfl l2_3) ?_
        exact w_ireturn rfl (k (x2_3) _ _ _ H O (SF_trans (SF_refl) hS_2 (any_sub rfl)) (SA_trans (SA_refl) hA_2 (any_subA rfl)) (show inr (x2_3) by omega) (show 0 ≤ (x2_3) by omega) (show (x2_3) = 0 ∨ a2 + (x2_3) ≤ (u0_12) by omega) (show (x2_3) = cpl ((w2)) (a1) (a2) ((u0_12)) by assumption))
      · have : EQB ((w2)) ((a1)) ((a2)) ((x2_3) + 1) := EQB_s j2_q (by rw [hb1, hb2]; omega) rfl
        refine Ew_of (pc' := 40) (fun _ => x_iinc (len := 3) rfl (l2_3)) ?_
        refine Ew_of (pc' := 2) (fun _ => x_goto rfl rfl) ?_
        exact ih2 _ (by omega) _ _ _ _ ((x2_3 + 1)) (rk_o (l2_0) rfl rfl) (rk_o (l2_1) rfl rfl) (rk_o (l2_2) rfl rfl) (rk_s) H O (hS_2) (hA_2)     (show inr ((x2_3 + 1)) by omega) (show 0 ≤ ((x2_3 + 1)) by omega) (show ((x2_3 + 1)) = 0 ∨ (a2) + ((x2_3 + 1)) ≤ (u0_12) by omega) (show ((x2_3 + 1)) ≤ 16384 by omega) (show EQB ((w2)) ((a1)) ((a2)) (((x2_3 + 1))) by assumption) rfl
abbrev V129 : vV := [(0, 5, [(4, 0), (4, 0), (4, 0), (4, 0), (0, 0), (0, 0), (0, 0), (4, 0), (4, 0), (0, 0), (0, 0), (0, 0), (0, 0), (0, 0), (0, 0), (0, 0), (0, 0), (0, 0), (0, 0)]), (0, 7, [(4, 0), (0, 0), (1, 0), (0, 0), (0, 0)]), (1, 0, []), (1, 1, [])]
/-- Finder.nearest: this, this.data, this.data.bytes, this.back -/
theorem C129 {σE : rS} {D N : Nat → Nat} {F : hF} {A : hA} {d c s : Nat} {Q : wQ} (H : HW V129 σE D N F A) {a1 a2 : Int} (pf1 : F 0 0 = (D 1 : Int)) (pf2 : F 1 0 = (D 2 : Int)) (pf3 : F 0 8 = (D 3 : Int)) (n2 : Int) (en2 : (N 2 : Int) = n2) (n3 : Int) (en3 : (N 3 : Int) = n3) (u0_6 : Int) (eu0_6 : F 0 6 = u0_6) (u0_10 : Int) (eu0_10 : F 0 10 = u0_10) (u0_11 : Int) (eu0_11 : F 0 11 = u0_11) (u0_12 : Int) (eu0_12 : F 0 12 = u0_12) (u0_14 : Int) (eu0_14 : F 0 14 = u0_14) (u0_15 : Int) (eu0_15 : F 0 15 = u0_15) (u1_1 : Int) (eu1_1 : F 1 1 = u1_1) (w2 : Int → Int) (ew2 : A 2 = w2) (w3 : Int → Int) (ew3 : A 3 = w3) (h0 : inr (a1)) (h1 : inr (a2)) (h2 : 0 ≤ (u1_1) ∧ (u1_1) ≤ (n2) ∧ (n2) ≤ 65536 ∧ (u1_1) ≤ 16384) (h3 : (u0_12) ≤ (u1_1)) (h4 : 1 ≤ (u0_10) ∧ (u0_10) ≤ 8) (h5 : 0 ≤ (a1) ∧ (a1) < (u0_6)) (h6 : (u0_6) ≤ (n3) ∧ (n3) ≤ 16384) (h7 : BKI ((w2)) ((w3)) ((u0_10)) ((u0_6))) (h8 : 1 ≤ (a2) ∧ (u0_10) ≤ (a2)) (k : ∀ (z : Int) (σ : rS) (F' : hF) (A' : hA), HW V129 σ D N F' A' → OUT (V129).length D N σE c s D N σ c s → SF [(0, 14), (0, 15)] F F' → SA [] A A' → ∀ y0_14 : Int, F' 0 14 = y0_14 → ∀ y0_15 : Int, F' 0 15 = y0_15 → ((z) = 0 ∨ (z) = 1) → ((z) = 1 → (a2) ≤ (y0_14) ∧ (a1) + (y0_14) ≤ (u0_12) ∧ 1 ≤ (y0_15) ∧ (y0_15) ≤ (a1)) → (NRQ ((w2)) ((u0_12)) ((u0_11)) ((a2)) ((a1)) ((z) * (y0_14)) ((y0_15))) → Q (some (I z)) σ c s) : Ew 129 (d + 1) 0 (rargs 0 [.ref (D 0), I a1, I a2]) [] σE c s Q := by
  have O := OUT_refl (n := (V129).length) (D := D) (N := N) (σ := σE) (c := c) (s := s)
  have HE := H
  have r1 : (-2147483648 : Int) ≤ u0_6 ∧ u0_6 ≤ 2147483647 := by have h1 : (-2147483648 : Int) ≤ F 0 6 ∧ F 0 6 ≤ 2147483647 := H.krg 0 6 (by decide); rw [show F 0 6 = u0_6 from (eu0_6)] at h1; exact h1
  have r2 : (-2147483648 : Int) ≤ u0_10 ∧ u0_10 ≤ 2147483647 := by have h1 : (-2147483648 : Int) ≤ F 0 10 ∧ F 0 10 ≤ 2147483647 := H.krg 0 10 (by decide); rw [show F 0 10 = u0_10 from (eu0_10)] at h1; exact h1
  have r3 : (-2147483648 : Int) ≤ u0_11 ∧ u0_11 ≤ 2147483647 := by have h1 : (-2147483648 : Int) ≤ F 0 11 ∧ F 0 11 ≤ 2147483647 := H.krg 0 11 (by decide); rw [show F 0 11 = u0_11 from (eu0_11)] at h1; exact h1
  have r4 : (-2147483648 : Int) ≤ u0_12 ∧ u0_12 ≤ 2147483647 := by have h1 : (-2147483648 : Int) ≤ F 0 12 ∧ F 0 12 ≤ 2147483647 := H.krg 0 12 (by decide); rw [show F 0 12 = u0_12 from (eu0_12)] at h1; exact h1
  have r5 : (-2147483648 : Int) ≤ u0_14 ∧ u0_14 ≤ 2147483647 := by have h1 : (-2147483648 : Int) ≤ F 0 14 ∧ F 0 14 ≤ 2147483647 := H.krg 0 14 (by decide); rw [show F 0 14 = u0_14 from (eu0_14)] at h1; exact h1
  have r6 : (-2147483648 : Int) ≤ u0_15 ∧ u0_15 ≤ 2147483647 := by have h1 : (-2147483648 : Int) ≤ F 0 15 ∧ F 0 15 ≤ 2147483647 := H.krg 0 15 (by decide); rw [show F 0 15 = u0_15 from (eu0_15)] at h1; exact h1
  have r7 : (-2147483648 : Int) ≤ u1_1 ∧ u1_1 ≤ 2147483647 := by have h1 : (-2147483648 : Int) ≤ F 1 1 ∧ F 1 1 ≤ 2147483647 := H.krg 1 1 (by decide); rw [show F 1 1 = u1_1 from (eu1_1)] at h1; exact h1
  have r8 : (0 : Int) ≤ n2 ∧ n2 ≤ 1000000 := by have h1 := H.nle 2 (by decide); have h2 : (N 2 : Int) = n2 := en2; omega
  have r9 : (0 : Int) ≤ n3 ∧ n3 ≤ 1000000 := by have h1 := H.nle 3 (by decide); have h2 : (N 3 : Int) = n3 := en3; omega
  have hbk : BKI ((w2)) ((w3)) ((u0_10)) ((u0_6)) := by assumption
  refine Ew_of (pc' := 1) (fun _ => x_aload_n rfl rfl) ?_
  refine v_g H (o := 0) (v := .ref (D 3)) rfl rfl rfl rfl rfl (vrf (pf3)) ?_
  refine Ew_of (pc' := 5) (fun _ => x_iload_n rfl rfl) ?_
  refine v_lI H (o := 3) rfl rfl rfl rfl (n := n3) (en3) (show 0 ≤ a1 ∧ a1 < n3 by omega) (fun v10 ev10 qv10 => ?_)
  have ev10 : (w3) (a1) = v10 := (congrFun (ew3) (a1)).symm.trans ev10
  have hr0 : RF ((w2)) ((u0_12)) ((a1)) ((a2)) ((v10)) := RF_mono (RF_0 hbk (by omega) (by omega) ev10) (by omega)
  have hb6 := hbk ((a1)) (by omega) (by omega)
  rw [ev10] at hb6
  have hb7 : -1 ≤ (v10) ∧ (v10) < (a1) := ⟨hb6.1, hb6.2.1⟩
  have hh6 : IMP ((0 : Int) ≤ (v10)) (hsh ((w2)) ((u0_10)) ((v10)) = hsh ((w2)) ((u0_10)) ((a1))) := fun z => hb6.2.2.1 z
  clear hb6
  refine Ew_of (pc' := 7) (fun _ => x_istore_n rfl) ?_
  refine Ew_of (pc' := 8) (fun _ => x_iconst rfl) ?_
  refine Ew_of (pc' := 10) (fun _ => x_istore rfl) ?_
  suffices hl10 : ∀ (m : Nat), ∀ (ls : rO) (σ : rS) (F_10 : hF) (A_10 : hA) (x10_3 : Int) (x10_4 : Int), rlook ls 0 = some (.ref (D 0)) → rlook ls 1 = some (I (a1)) → rlook ls 2 = some (I (a2)) → rlook ls 3 = some (I (x10_3)) → rlook ls 4 = some (I (x10_4)) → HW V129 σ D N F_10 A_10 → OUT (V129).length D N σE c s D N σ c s → SF [] F F_10 → SA [] A A_10 → (inr (x10_3)) → (inr (x10_4)) → ((0) ≤ (x10_4)) → ((x10_4) ≤ (0) ∨ (x10_4) ≤ ((a1))) → (-1 ≤ (x10_3) ∧ (x10_3) < (a1)) → ((x10_3) ≤ (a1) - 1 - (x10_4)) → (RF ((w2)) ((u0_12)) ((a1)) ((a2)) ((x10_3))) → (IMP ((0 : Int) ≤ (x10_3)) (hsh ((w2)) ((u0_10)) ((x10_3)) = hsh ((w2)) ((u0_10)) ((a1)))) → (((a1)) - (x10_4)).toNat = m → Ew 129 (d + 1) 10 ls [] σ c s Q from
    hl10 _ _ _ _ _ (v10) (0) (rk_o (rk_o (rfl) rfl rfl) rfl rfl) (rk_o (rk_o (rfl) rfl rfl) rfl rfl) (rk_o (rk_o (rfl) rfl rfl) rfl rfl) (rk_o (rk_s) rfl rfl) (rk_s) H O (SF_refl) (SA_refl)     (show inr (v10) by omega) (show inr (0) by omega) (show (0) ≤ (0) by omega) (show (0) ≤ (0) ∨ (0) ≤ ((a1)) by omega) (show -1 ≤ (v10) ∧ (v10) < (a1) by omega) (show (v10) ≤ (a1) - 1 - (0) by omega) (show RF ((w2)) ((u0_12)) ((a1)) ((a2)) ((v10)) by assumption) (show IMP ((0 : Int) ≤ (v10)) (hsh ((w2)) ((u0_10)) ((v10)) = hsh ((w2)) ((u0_10)) ((a1))) by assumption) rfl
  as_aux_lemma =>
  intro m
  induction m using Nat.strongRecOn with
  | _ m ih10 =>
    intro ls σ F_10 A_10 x10_3 x10_4 l10_0 l10_1 l10_2 l10_3 l10_4 H O hS_10 hA_10     j10_0 j10_1 j10_2 j10_3 j10_4 j10_5 j10_6 j10_7 hm10
    have j10_r : RF ((w2)) ((u0_12)) ((a1)) ((a2)) ((x10_3)) := by assumption
    have j10_h : IMP ((0 : Int) ≤ (x10_3)) (hsh ((w2)) ((u0_10)) ((x10_3)) = hsh ((w2)) ((u0_10)) ((a1))) := by assumption
    refine Ew_of (pc' := 12) (fun _ => x_iload rfl l10_4) ?_
    refine Ew_of (pc' := 13) (fun _ => x_iload_n rfl l10_1) ?_
    refine w_icmpge (t := 72) rfl rfl (show inr (x10_4) by omega) (show inr (a1) by omega) (fun b11 => ?_) (fun b11 => ?_)
    · refine Ew_of (pc' := 73) (fun _ => x_iconst rfl) ?_
      have : NRQ ((w2)) ((u0_12)) ((u0_11)) ((a2)) ((a1)) (0 * (u0_14)) ((u0_15)) := by rw [Int.zero_mul]; exact NRQ_n j10_r (by omega)
      exact w_ireturn rfl (k (0) _ _ _ H O (SF_trans (SF_refl) hS_10 (any_sub rfl)) (SA_trans (SA_refl) hA_10 (any_subA rfl)) (u0_14) (((hS_10 0 14 rfl).trans (eu0_14))) (u0_15) (((hS_10 0 15 rfl).trans (eu0_15))) (show (0) = 0 ∨ (0) = 1 by omega) (show (0) = 1 → a2 ≤ (u0_14) ∧ a1 + (u0_14) ≤ (u0_12) ∧ 1 ≤ (u0_15) ∧ (u0_15) ≤ a1 by omega) (show NRQ ((w2)) ((u0_12)) ((u0_11)) (a2) (a1) ((0) * (u0_14)) ((u0_15)) by assumption))
    · refine Ew_of (pc' := 17) (fun _ => x_iload_n rfl l10_3) ?_
      refine w_iflt (t := 72) rfl rfl (show inr (x10_3) by omega) (fun b12 => ?_) (fun b12 => ?_)
      · refine Ew_of (pc' := 73) (fun _ => x_iconst rfl) ?_
        have : NRQ ((w2)) ((u0_12)) ((u0_11)) ((a2)) ((a1)) (0 * (u0_14)) ((u0_15)) := by rw [Int.zero_mul]; exact NRQ_n j10_r (by omega)
        exact w_ireturn rfl (k (0) _ _ _ H O (SF_trans (SF_refl) hS_10 (any_sub rfl)) (SA_trans (SA_refl) hA_10 (any_subA rfl)) (u0_14) (((hS_10 0 14 rfl).trans (eu0_14))) (u0_15) (((hS_10 0 15 rfl).trans (eu0_15))) (show (0) = 0 ∨ (0) = 1 by omega) (show (0) = 1 → a2 ≤ (u0_14) ∧ a1 + (u0_14) ≤ (u0_12) ∧ 1 ≤ (u0_15) ∧ (u0_15) ≤ a1 by omega) (show NRQ ((w2)) ((u0_12)) ((u0_11)) (a2) (a1) ((0) * (u0_14)) ((u0_15)) by assumption))
      · refine Ew_of (pc' := 21) (fun _ => x_iload_n rfl l10_1) ?_
        refine Ew_of (pc' := 22) (fun _ => x_iload_n rfl l10_3) ?_
        refine w_isub rfl ?_
        refine Ew_of (pc' := 24) (fun _ => x_aload_n rfl l10_0) ?_
        refine v_g H (o := 0) (v := I (u0_11)) rfl rfl rfl rfl rfl (congrArg (fun z : Int => I z) (((hS_10 0 11 rfl).trans (eu0_11)) : F_10 0 11 = u0_11)) ?_
        refine w_icmpgt (t := 72) rfl rfl (show inr ((a1 - x10_3)) by omega) (show inr (u0_11) by omega) (fun b13 => ?_) (fun b13 => ?_)
        · refine Ew_of (pc' := 73) (fun _ => x_iconst rfl) ?_
          have : NRQ ((w2)) ((u0_12)) ((u0_11)) ((a2)) ((a1)) (0 * (u0_14)) ((u0_15)) := by rw [Int.zero_mul]; exact NRQ_n j10_r (by omega)
          exact w_ireturn rfl (k (0) _ _ _ H O (SF_trans (SF_refl) hS_10 (any_sub rfl)) (SA_trans (SA_refl) hA_10 (any_subA rfl)) (u0_14) (((hS_10 0 14 rfl).trans (eu0_14))) (u0_15) (((hS_10 0 15 rfl).trans (eu0_15))) (show (0) = 0 ∨ (0) = 1 by omega) (show (0) = 1 → a2 ≤ (u0_14) ∧ a1 + (u0_14) ≤ (u0_12) ∧ 1 ≤ (u0_15) ∧ (u0_15) ≤ a1 by omega) (show NRQ ((w2)) ((u0_12)) ((u0_11)) (a2) (a1) ((0) * (u0_14)) ((u0_15)) by assumption))
        · refine Ew_of (pc' := 31) (fun _ => x_aload_n rfl l10_0) ?_
          refine Ew_of (pc' := 32) (fun _ => x_iload_n rfl l10_3) ?_
          refine Ew_of (pc' := 33) (fun _ => x_iload_n rfl l10_1) ?_
          refine v_inv H (o := 0) rfl rfl rfl rfl rfl rfl (by rfl) (C128 (D := pul [0, 1, 2] D) (N := pul [0, 1, 2] N) (HW_sub H (VS_of (show vsub V129 V128 [0, 1, 2] = true by decide +kernel))) (((hS_10 0 0 rfl)).trans (pf1)) (((hS_10 1 0 rfl)).trans (pf2)) (n2) (en2) (u0_12) (((hS_10 0 12 rfl).trans (eu0_12))) (u1_1) (((hS_10 1 1 rfl).trans (eu1_1))) (w2) ((funext (hA_10 2 rfl)).trans (ew2)) (show inr (x10_3) by omega) (show inr (a1) by omega) (show 0 ≤ (u1_1) ∧ (u1_1) ≤ (n2) ∧ (n2) ≤ 65536 ∧ (u1_1) ≤ 16384 by omega) (show (u0_12) ≤ (u1_1) by omega) (show 0 ≤ (x10_3) ∧ (x10_3) ≤ (a1) ∧ (a1) ≤ 16384 by omega) (fun z14 σ14 F14' A14' H' O' hS14 hA14 pz14_0 pz14_1 pz14_2 pz14_3 => ⟨rfl, ?_⟩))
          refine v_back (c := c) (s := s) H (show vsub V129 V128 [0, 1, 2] = true by decide +kernel) H' O' (fun F14 A14 H O' eF14 eA14 => ?_)
          have O := OUT_trans O O'
          -- Finder.common
          have hcp : (z14) = cpl ((w2)) ((x10_3)) ((a1)) ((u0_12)) := pz14_3
          refine Ew_of (pc' := 38) (fun _ => x_istore rfl) ?_
          refine Ew_of (pc' := 40) (fun _ => x_iload rfl rk_s) ?_
          refine Ew_of (pc' := 41) (fun _ => x_iload_n rfl (rk_o (l10_2) rfl rfl)) ?_
          refine w_icmplt (t := 59) rfl rfl (show inr (z14) by omega) (show inr (a2) by omega) (fun b15 => ?_) (fun b15 => ?_)
          · refine Ew_of (pc' := 60) (fun _ => x_aload_n rfl (rk_o (l10_0) rfl rfl)) ?_
            refine v_g H (o := 0) (v := .ref (D 3)) rfl rfl rfl rfl rfl (vrf (((((show F14 0 8 = F_10 0 8 from (eF14 0 8).trans (hS14 0 8 rfl))).trans (hS_10 0 8 rfl))).trans (pf3))) ?_
            refine Ew_of (pc' := 64) (fun _ => x_iload_n rfl (rk_o (l10_3) rfl rfl)) ?_
            refine v_lI H (o := 3) rfl rfl rfl rfl (n := n3) (en3) (show 0 ≤ x10_3 ∧ x10_3 < n3 by omega) (fun v16 ev16 qv16 => ?_)
            have ev16 : (w3) (x10_3) = v16 := (congrFun (((show A14 3 = A_10 3 from (eA14 3))).trans ((funext (hA_10 3 rfl)).trans (ew3))) (x10_3)).symm.trans ev16
            have hr1 : RF ((w2)) ((u0_12)) ((a1)) ((a2)) ((v16)) := RF_s j10_r (by rw [← hcp]; omega) (BKI_gap hbk (by omega) (by omega) (j10_h (by omega)) ev16) (by omega)
            have hb6 := hbk ((x10_3)) (by omega) (by omega)
            rw [ev16] at hb6
            have hb7 : -1 ≤ (v16) ∧ (v16) < (x10_3) := ⟨hb6.1, hb6.2.1⟩
            have hh7 : IMP ((0 : Int) ≤ (v16)) (hsh ((w2)) ((u0_10)) ((v16)) = hsh ((w2)) ((u0_10)) ((a1))) := fun z => (hb6.2.2.1 z).trans (j10_h (by omega))
            clear hb6
            refine Ew_of (pc' := 66) (fun _ => x_istore_n rfl) ?_
            refine Ew_of (pc' := 69) (fun _ => x_iinc (len := 3) rfl (rk_o (rk_o (l10_4) rfl rfl) rfl rfl)) ?_
            refine Ew_of (pc' := 10) (fun _ => x_goto rfl rfl) ?_
            exact ih10 _ (by omega) _ _ _ _ (v16) ((x10_4 + 1)) (rk_o (rk_o (rk_o (l10_0) rfl rfl) rfl rfl) rfl rfl) (rk_o (rk_o (rk_o (l10_1) rfl rfl) rfl rfl) rfl rfl) (rk_o (rk_o (rk_o (l10_2) rfl rfl) rfl rfl) rfl rfl) (rk_o (rk_s) rfl rfl) (rk_s) H O (SF_trans (hS_10) (SF_glu (ι := [0, 1, 2]) hS14 eF14 (by decide +kernel)) (any_sub (l' := []) rfl)) (SA_trans (hA_10) (SA_glu (ι := [0, 1, 2]) hA14 eA14 (by decide +kernel)) (any_subA (l' := []) rfl))     (show inr (v16) by omega) (show inr ((x10_4 + 1)) by omega) (show (0) ≤ ((x10_4 + 1)) by omega) (show ((x10_4 + 1)) ≤ (0) ∨ ((x10_4 + 1)) ≤ ((a1)) by omega) (show -1 ≤ (v16) ∧ (v16) < (a1) by omega) (show (v16) ≤ (a1) - 1 - ((x10_4 + 1)) by omega) (show RF ((w2)) ((u0_12)) ((a1)) ((a2)) ((v16)) by assumption) (show IMP ((0 : Int) ≤ (v16)) (hsh ((w2)) ((u0_10)) ((v16)) = hsh ((w2)) ((u0_10)) ((a1))) by assumption) rfl
          · refine Ew_of (pc' := 45) (fun _ => x_aload_n rfl (rk_o (l10_0) rfl rfl)) ?_
            refine Ew_of (pc' := 47) (fun _ => x_iload rfl rk_s) ?_
            refine v_p H (o := 0) (z := z14) (v := I (z14)) rfl rfl rfl rfl rfl rfl rfl rfl (show (-2147483648 : Int) ≤ z14 ∧ z14 ≤ 2147483647 by omega) (fun σ H O' => ?_)
            have O := OUT_trans O O'
            refine Ew_of (pc' := 51) (fun _ => x_aload_n rfl (rk_o (l10_0) rfl rfl)) ?_
            refine Ew_of (pc' := 52) (fun _ => x_iload_n rfl (rk_o (l10_1) rfl rfl)) ?_
            refine Ew_of (pc' := 53) (fun _ => x_iload_n rfl (rk_o (l10_3) rfl rfl)) ?_
            refine w_isub rfl ?_
            refine v_p H (o := 0) (z := (a1 - x10_3)) (v := I ((a1 - x10_3))) rfl rfl rfl rfl rfl rfl rfl rfl (show (-2147483648 : Int) ≤ (a1 - x10_3) ∧ (a1 - x10_3) ≤ 2147483647 by omega) (fun σ H O' => ?_)
            have O := OUT_trans O O'
            refine Ew_of (pc' := 58) (fun _ => x_iconst rfl) ?_
            have : NRQ ((w2)) ((u0_12)) ((u0_11)) ((a2)) ((a1)) (1 * (z14)) (((a1 - x10_3))) := by rw [Int.one_mul]; exact NRQ_y j10_r hcp.symm (by omega) (by omega) (by omega) (by omega)
            exact w_ireturn rfl (k (1) _ _ _ H O (SF_upd (SF_upd (SF_trans (SF_trans (SF_refl) hS_10 (any_sub rfl)) (SF_glu (ι := [0, 1, 2]) hS14 eF14 (by decide +kernel)) (any_sub (l' := []) rfl)) rfl) rfl) (SA_trans (SA_trans (SA_refl) hA_10 (any_subA rfl)) (SA_glu (ι := [0, 1, 2]) hA14 eA14 (by decide +kernel)) (any_subA (l' := []) rfl)) (z14) (rfl) ((a1 - x10_3)) (rfl) (show (1) = 0 ∨ (1) = 1 by omega) (show (1) = 1 → a2 ≤ (z14) ∧ a1 + (z14) ≤ (u0_12) ∧ 1 ≤ ((a1 - x10_3)) ∧ ((a1 - x10_3)) ≤ a1 by omega) (show NRQ ((w2)) ((u0_12)) ((u0_11)) (a2) (a1) ((1) * (z14)) (((a1 - x10_3))) by assumption))
abbrev V130 : vV := [(0, 5, [(4, 0), (4, 0), (4, 0), (4, 0), (0, 0), (0, 0), (0, 0), (4, 0), (4, 0), (0, 0), (0, 0), (0, 0), (0, 0), (0, 0), (0, 0), (0, 0), (0, 0), (0, 0), (0, 0)]), (0, 7, [(4, 0), (0, 0), (1, 0), (0, 0), (0, 0)]), (1, 0, []), (1, 1, [])]
/-- Finder.longest: this, this.data, this.data.bytes, this.back -/
theorem C130 {σE : rS} {D N : Nat → Nat} {F : hF} {A : hA} {d c s : Nat} {Q : wQ} (H : HW V130 σE D N F A) {a1 : Int} (pf1 : F 0 0 = (D 1 : Int)) (pf2 : F 1 0 = (D 2 : Int)) (pf3 : F 0 8 = (D 3 : Int)) (n2 : Int) (en2 : (N 2 : Int) = n2) (n3 : Int) (en3 : (N 3 : Int) = n3) (u0_6 : Int) (eu0_6 : F 0 6 = u0_6) (u0_10 : Int) (eu0_10 : F 0 10 = u0_10) (u0_11 : Int) (eu0_11 : F 0 11 = u0_11) (u0_12 : Int) (eu0_12 : F 0 12 = u0_12) (u0_14 : Int) (eu0_14 : F 0 14 = u0_14) (u0_15 : Int) (eu0_15 : F 0 15 = u0_15) (u0_16 : Int) (eu0_16 : F 0 16 = u0_16) (u0_17 : Int) (eu0_17 : F 0 17 = u0_17) (u0_18 : Int) (eu0_18 : F 0 18 = u0_18) (u1_1 : Int) (eu1_1 : F 1 1 = u1_1) (w2 : Int → Int) (ew2 : A 2 = w2) (w3 : Int → Int) (ew3 : A 3 = w3) (h0 : inr (a1)) (h1 : 0 ≤ (u1_1) ∧ (u1_1) ≤ (n2) ∧ (n2) ≤ 65536 ∧ (u1_1) ≤ 16384) (h2 : (u0_12) ≤ (u1_1)) (h3 : 1 ≤ (u0_10) ∧ (u0_10) ≤ 8) (h4 : 0 ≤ (a1) ∧ (a1) < (u0_6)) (h5 : (u0_6) ≤ (n3) ∧ (n3) ≤ 16384) (h6 : BKI ((w2)) ((w3)) ((u0_10)) ((u0_6))) (h7 : (u0_16) = -1 ∨ (u0_17) = 0 ∨ (u0_10) ≤ (u0_17) ∧ (u0_16) + (u0_17) ≤ (u0_12) ∧ 1 ≤ (u0_18) ∧ (u0_18) ≤ (u0_16)) (h8 : IMP ((0 : Int) ≤ (u0_16)) (LGQ ((w2)) ((u0_12)) ((u0_11)) ((u0_10)) ((u0_16)) ((u0_17)) ((u0_18)))) (k : ∀ (σ : rS) (F' : hF) (A' : hA), HW V130 σ D N F' A' → OUT (V130).length D N σE c s D N σ c s → SF [(0, 14), (0, 15)] F F' → SA [] A A' → ∀ y0_14 : Int, F' 0 14 = y0_14 → ∀ y0_15 : Int, F' 0 15 = y0_15 → ((y0_14) = 0 ∨ (u0_10) ≤ (y0_14) ∧ (a1) + (y0_14) ≤ (u0_12) ∧ 1 ≤ (y0_15) ∧ (y0_15) ≤ (a1)) → (LGQ ((w2)) ((u0_12)) ((u0_11)) ((u0_10)) ((a1)) ((y0_14)) ((y0_15))) → Q none σ c s) : Ew 130 (d + 1) 0 (rargs 0 [.ref (D 0), I a1]) [] σE c s Q := by
  have O := OUT_refl (n := (V130).length) (D := D) (N := N) (σ := σE) (c := c) (s := s)
  have HE := H
  have r1 : (-2147483648 : Int) ≤ u0_6 ∧ u0_6 ≤ 2147483647 := by have h1 : (-2147483648 : Int) ≤ F 0 6 ∧ F 0 6 ≤ 2147483647 := H.krg 0 6 (by decide); rw [show F 0 6 = u0_6 from (eu0_6)] at h1; exact h1
  have r2 : (-2147483648 : Int) ≤ u0_10 ∧ u0_10 ≤ 2147483647 := by have h1 : (-2147483648 : Int) ≤ F 0 10 ∧ F 0 10 ≤ 2147483647 := H.krg 0 10 (by decide); rw [show F 0 10 = u0_10 from (eu0_10)] at h1; exact h1
  have r3 : (-2147483648 : Int) ≤ u0_11 ∧ u0_11 ≤ 2147483647 := by have h1 : (-2147483648 : Int) ≤ F 0 11 ∧ F 0 11 ≤ 2147483647 := H.krg 0 11 (by decide); rw [show F 0 11 = u0_11 from (eu0_11)] at h1; exact h1
  have r4 : (-2147483648 : Int) ≤ u0_12 ∧ u0_12 ≤ 2147483647 := by have h1 : (-2147483648 : Int) ≤ F 0 12 ∧ F 0 12 ≤ 2147483647 := H.krg 0 12 (by decide); rw [show F 0 12 = u0_12 from (eu0_12)] at h1; exact h1
  have r5 : (-2147483648 : Int) ≤ u0_14 ∧ u0_14 ≤ 2147483647 := by have h1 : (-2147483648 : Int) ≤ F 0 14 ∧ F 0 14 ≤ 2147483647 := H.krg 0 14 (by decide); rw [show F 0 14 = u0_14 from (eu0_14)] at h1; exact h1
  have r6 : (-2147483648 : Int) ≤ u0_15 ∧ u0_15 ≤ 2147483647 := by have h1 : (-2147483648 : Int) ≤ F 0 15 ∧ F 0 15 ≤ 2147483647 := H.krg 0 15 (by decide); rw [show F 0 15 = u0_15 from (eu0_15)] at h1; exact h1
  have r7 : (-2147483648 : Int) ≤ u0_16 ∧ u0_16 ≤ 2147483647 := by have h1 : (-2147483648 : Int) ≤ F 0 16 ∧ F 0 16 ≤ 2147483647 := H.krg 0 16 (by decide); rw [show F 0 16 = u0_16 from (eu0_16)] at h1; exact h1
  have r8 : (-2147483648 : Int) ≤ u0_17 ∧ u0_17 ≤ 2147483647 := by have h1 : (-2147483648 : Int) ≤ F 0 17 ∧ F 0 17 ≤ 2147483647 := H.krg 0 17 (by decide); rw [show F 0 17 = u0_17 from (eu0_17)] at h1; exact h1
  have r9 : (-2147483648 : Int) ≤ u0_18 ∧ u0_18 ≤ 2147483647 := by have h1 : (-2147483648 : Int) ≤ F 0 18 ∧ F 0 18 ≤ 2147483647 := H.krg 0 18 (by decide); rw [show F 0 18 = u0_18 from (eu0_18)] at h1; exact h1
  have r10 : (-2147483648 : Int) ≤ u1_1 ∧ u1_1 ≤ 2147483647 := by have h1 : (-2147483648 : Int) ≤ F 1 1 ∧ F 1 1 ≤ 2147483647 := H.krg 1 1 (by decide); rw [show F 1 1 = u1_1 from (eu1_1)] at h1; exact h1
  have r11 : (0 : Int) ≤ n2 ∧ n2 ≤ 1000000 := by have h1 := H.nle 2 (by decide); have h2 : (N 2 : Int) = n2 := en2; omega
  have r12 : (0 : Int) ≤ n3 ∧ n3 ≤ 1000000 := by have h1 := H.nle 3 (by decide); have h2 : (N 3 : Int) = n3 := en3; omega
  have hbk : BKI ((w2)) ((w3)) ((u0_10)) ((u0_6)) := by assumption
  have hah : IMP ((0 : Int) ≤ (u0_16)) (LGQ ((w2)) ((u0_12)) ((u0_11)) ((u0_10)) ((u0_16)) ((u0_17)) ((u0_18))) := by assumption
  refine Ew_of (pc' := 1) (fun _ => x_iload_n rfl rfl) ?_
  refine Ew_of (pc' := 2) (fun _ => x_aload_n rfl rfl) ?_
  refine v_g H (o := 0) (v := I (u0_16)) rfl rfl rfl rfl rfl (congrArg (fun z : Int => I z) ((eu0_16) : F 0 16 = u0_16)) ?_
  refine w_icmpne (t := 25) rfl rfl (show inr (a1) by omega) (show inr (u0_16) by omega) (fun b13 => ?_) (fun b13 => ?_)
  · refine Ew_of (pc' := 26) (fun _ => x_aload_n rfl rfl) ?_
    refine Ew_of (pc' := 27) (fun _ => x_iconst rfl) ?_
    refine v_p H (o := 0) (z := 0) (v := I (0)) rfl rfl rfl rfl rfl rfl rfl rfl (show (-2147483648 : Int) ≤ 0 ∧ 0 ≤ 2147483647 by omega) (fun σ H O' => ?_)
    have O := OUT_trans O O'
    refine Ew_of (pc' := 31) (fun _ => x_aload_n rfl rfl) ?_
    refine Ew_of (pc' := 32) (fun _ => x_iconst rfl) ?_
    refine v_p H (o := 0) (z := 0) (v := I (0)) rfl rfl rfl rfl rfl rfl rfl rfl (show (-2147483648 : Int) ≤ 0 ∧ 0 ≤ 2147483647 by omega) (fun σ H O' => ?_)
    have O := OUT_trans O O'
    refine Ew_of (pc' := 36) (fun _ => x_aload_n rfl rfl) ?_
    refine v_g H (o := 0) (v := .ref (D 3)) rfl rfl rfl rfl rfl (vrf (pf3)) ?_
    refine Ew_of (pc' := 40) (fun _ => x_iload_n rfl rfl) ?_
    refine v_lI H (o := 3) rfl rfl rfl rfl (n := n3) (en3) (show 0 ≤ a1 ∧ a1 < n3 by omega) (fun v14 ev14 qv14 => ?_)
    have ev14 : (w3) (a1) = v14 := (congrFun (ew3) (a1)).symm.trans ev14
    have hr0 : RF ((w2)) ((u0_12)) ((a1)) ((u0_10)) ((v14)) := RF_0 hbk (by omega) (by omega) ev14
    have hl0 : LBQ ((w2)) ((u0_12)) ((u0_11)) ((u0_10)) ((a1)) ((v14)) (0) (0) := LBQ_0 hr0
    have hb6 := hbk ((a1)) (by omega) (by omega)
    rw [ev14] at hb6
    have hb7 : -1 ≤ (v14) ∧ (v14) < (a1) := ⟨hb6.1, hb6.2.1⟩
    have hh6 : IMP ((0 : Int) ≤ (v14)) (hsh ((w2)) ((u0_10)) ((v14)) = hsh ((w2)) ((u0_10)) ((a1))) := fun z => hb6.2.2.1 z
    clear hb6
    refine Ew_of (pc' := 42) (fun _ => x_istore_n rfl) ?_
    refine Ew_of (pc' := 43) (fun _ => x_iconst rfl) ?_
    refine Ew_of (pc' := 44) (fun _ => x_istore_n rfl) ?_
    suffices hl44 : ∀ (m : Nat), ∀ (ls : rO) (σ : rS) (F_44 : hF) (A_44 : hA) (x44_2 : Int) (x44_3 : Int), rlook ls 0 = some (.ref (D 0)) → rlook ls 1 = some (I (a1)) → rlook ls 2 = some (I (x44_2)) → rlook ls 3 = some (I (x44_3)) → HW V130 σ D N F_44 A_44 → OUT (V130).length D N σE c s D N σ c s → SF [(0, 14), (0, 15)] (updF (updF F 0 14 (0)) 0 15 (0)) F_44 → SA [] A A_44 → ∀ y44_0_14 : Int, F_44 0 14 = y44_0_14 → ∀ y44_0_15 : Int, F_44 0 15 = y44_0_15 → (inr (x44_2)) → (inr (x44_3)) → ((0) ≤ (x44_3)) → ((x44_3) ≤ (0) ∨ (x44_3) ≤ ((a1))) → (-1 ≤ (x44_2) ∧ (x44_2) < (a1)) → ((y44_0_14) = 0 ∨ (u0_10) ≤ (y44_0_14) ∧ (a1) + (y44_0_14) ≤ (u0_12) ∧ 1 ≤ (y44_0_15) ∧ (y44_0_15) ≤ (a1)) → ((y44_0_14) ≤ 16384) → ((x44_2) ≤ (a1) - 1 - (x44_3)) → (LBQ ((w2)) ((u0_12)) ((u0_11)) ((u0_10)) ((a1)) ((x44_2)) ((y44_0_14)) ((y44_0_15))) → (IMP ((0 : Int) ≤ (x44_2)) (hsh ((w2)) ((u0_10)) ((x44_2)) = hsh ((w2)) ((u0_10)) ((a1)))) → (((a1)) - (x44_3)).toNat = m → Ew 130 (d + 1) 44 ls [] σ c s Q from
      hl44 _ _ _ _ _ (v14) (0) (rk_o (rk_o (rfl) rfl rfl) rfl rfl) (rk_o (rk_o (rfl) rfl rfl) rfl rfl) (rk_o (rk_s) rfl rfl) (rk_s) H O (SF_refl) (SA_refl)   (0) (rfl) (0) (rfl)  (show inr (v14) by omega) (show inr (0) by omega) (show (0) ≤ (0) by omega) (show (0) ≤ (0) ∨ (0) ≤ ((a1)) by omega) (show -1 ≤ (v14) ∧ (v14) < (a1) by omega) (show (0) = 0 ∨ (u0_10) ≤ (0) ∧ (a1) + (0) ≤ (u0_12) ∧ 1 ≤ (0) ∧ (0) ≤ (a1) by omega) (show (0) ≤ 16384 by omega) (show (v14) ≤ (a1) - 1 - (0) by omega) (show LBQ ((w2)) ((u0_12)) ((u0_11)) ((u0_10)) ((a1)) ((v14)) ((0)) ((0)) by assumption) (show IMP ((0 : Int) ≤ (v14)) (hsh ((w2)) ((u0_10)) ((v14)) = hsh ((w2)) ((u0_10)) ((a1))) by assumption) rfl
    as_aux_lemma =>
    intro m
    induction m using Nat.strongRecOn with
    | _ m ih44 =>
      intro ls σ F_44 A_44 x44_2 x44_3 l44_0 l44_1 l44_2 l44_3 H O hS_44 hA_44   y44_0_14 ey44_0_14 y44_0_15 ey44_0_15  j44_0 j44_1 j44_2 j44_3 j44_4 j44_5 j44_6 j44_7 j44_8 j44_9 hm44
      have r15 : (-2147483648 : Int) ≤ y44_0_14 ∧ y44_0_14 ≤ 2147483647 := by have h1 : (-2147483648 : Int) ≤ F_44 0 14 ∧ F_44 0 14 ≤ 2147483647 := H.krg 0 14 (by decide); rw [show F_44 0 14 = y44_0_14 from (ey44_0_14)] at h1; exact h1
      have r16 : (-2147483648 : Int) ≤ y44_0_15 ∧ y44_0_15 ≤ 2147483647 := by have h1 : (-2147483648 : Int) ≤ F_44 0 15 ∧ F_44 0 15 ≤ 2147483647 := H.krg 0 15 (by decide); rw [show F_44 0 15 = y44_0_15 from (ey44_0_15)] at h1; exact h1
      have j44_l : LBQ ((w2)) ((u0_12)) ((u0_11)) ((u0_10)) ((a1)) ((x44_2)) ((y44_0_14)) ((y44_0_15)) := by assumption
      have j44_h : IMP ((0 : Int) ≤ (x44_2)) (hsh ((w2)) ((u0_10)) ((x44_2)) = hsh ((w2)) ((u0_10)) ((a1))) := by assumption
      refine Ew_of (pc' := 45) (fun _ => x_iload_n rfl l44_3) ?_
      refine Ew_of (pc' := 46) (fun _ => x_iload_n rfl l44_1) ?_
      refine w_icmpge (t := 159) rfl rfl (show inr (x44_3) by omega) (show inr (a1) by omega) (fun b17 => ?_) (fun b17 => ?_)
      · have : LGQ ((w2)) ((u0_12)) ((u0_11)) ((u0_10)) ((a1)) ((y44_0_14)) ((y44_0_15)) := LBQ_end j44_l (by omega) (by omega)
        exact w_ret rfl (k _ _ _ H O (SF_trans (SF_upd (SF_upd (SF_refl) rfl) rfl) hS_44 (any_sub rfl)) (SA_trans (SA_refl) hA_44 (any_subA rfl)) (y44_0_14) ((ey44_0_14)) (y44_0_15) ((ey44_0_15)) (show (y44_0_14) = 0 ∨ (u0_10) ≤ (y44_0_14) ∧ a1 + (y44_0_14) ≤ (u0_12) ∧ 1 ≤ (y44_0_15) ∧ (y44_0_15) ≤ a1 by omega) (show LGQ ((w2)) ((u0_12)) ((u0_11)) ((u0_10)) (a1) ((y44_0_14)) ((y44_0_15)) by assumption))
      · refine Ew_of (pc' := 50) (fun _ => x_iload_n rfl l44_2) ?_
        refine w_iflt (t := 159) rfl rfl (show inr (x44_2) by omega) (fun b18 => ?_) (fun b18 => ?_)
        · have : LGQ ((w2)) ((u0_12)) ((u0_11)) ((u0_10)) ((a1)) ((y44_0_14)) ((y44_0_15)) := LBQ_end j44_l (by omega) (by omega)
          exact w_ret rfl (k _ _ _ H O (SF_trans (SF_upd (SF_upd (SF_refl) rfl) rfl) hS_44 (any_sub rfl)) (SA_trans (SA_refl) hA_44 (any_subA rfl)) (y44_0_14) ((ey44_0_14)) (y44_0_15) ((ey44_0_15)) (show (y44_0_14) = 0 ∨ (u0_10) ≤ (y44_0_14) ∧ a1 + (y44_0_14) ≤ (u0_12) ∧ 1 ≤ (y44_0_15) ∧ (y44_0_15) ≤ a1 by omega) (show LGQ ((w2)) ((u0_12)) ((u0_11)) ((u0_10)) (a1) ((y44_0_14)) ((y44_0_15)) by assumption))
        · refine Ew_of (pc' := 54) (fun _ => x_iload_n rfl l44_1) ?_
          refine Ew_of (pc' := 55) (fun _ => x_iload_n rfl l44_2) ?_
          refine w_isub rfl ?_
          refine Ew_of (pc' := 57) (fun _ => x_aload_n rfl l44_0) ?_
          refine v_g H (o := 0) (v := I (u0_11)) rfl rfl rfl rfl rfl (congrArg (fun z : Int => I z) (((hS_44 0 11 rfl).trans (eu0_11)) : F_44 0 11 = u0_11)) ?_
          refine w_icmpgt (t := 159) rfl rfl (show inr ((a1 - x44_2)) by omega) (show inr (u0_11) by omega) (fun b19 => ?_) (fun b19 => ?_)
          · have : LGQ ((w2)) ((u0_12)) ((u0_11)) ((u0_10)) ((a1)) ((y44_0_14)) ((y44_0_15)) := LBQ_end j44_l (by omega) (by omega)
            exact w_ret rfl (k _ _ _ H O (SF_trans (SF_upd (SF_upd (SF_refl) rfl) rfl) hS_44 (any_sub rfl)) (SA_trans (SA_refl) hA_44 (any_subA rfl)) (y44_0_14) ((ey44_0_14)) (y44_0_15) ((ey44_0_15)) (show (y44_0_14) = 0 ∨ (u0_10) ≤ (y44_0_14) ∧ a1 + (y44_0_14) ≤ (u0_12) ∧ 1 ≤ (y44_0_15) ∧ (y44_0_15) ≤ a1 by omega) (show LGQ ((w2)) ((u0_12)) ((u0_11)) ((u0_10)) (a1) ((y44_0_14)) ((y44_0_15)) by assumption))
          · refine Ew_of (pc' := 64) (fun _ => x_iload_n rfl l44_1) ?_
            refine Ew_of (pc' := 65) (fun _ => x_aload_n rfl l44_0) ?_
            refine v_g H (o := 0) (v := I (y44_0_14)) rfl rfl rfl rfl rfl (congrArg (fun z : Int => I z) ((ey44_0_14) : F_44 0 14 = y44_0_14)) ?_
            refine w_iadd rfl ?_
            refine Ew_of (pc' := 70) (fun _ => x_aload_n rfl l44_0) ?_
            refine v_g H (o := 0) (v := I (u0_12)) rfl rfl rfl rfl rfl (congrArg (fun z : Int => I z) (((hS_44 0 12 rfl).trans (eu0_12)) : F_44 0 12 = u0_12)) ?_
            refine w_icmpge (t := 159) rfl rfl (show inr ((a1 + y44_0_14)) by omega) (show inr (u0_12) by omega) (fun b20 => ?_) (fun b20 => ?_)
            · have : LGQ ((w2)) ((u0_12)) ((u0_11)) ((u0_10)) ((a1)) ((y44_0_14)) ((y44_0_15)) := LBQ_end j44_l (by omega) (by omega)
              exact w_ret rfl (k _ _ _ H O (SF_trans (SF_upd (SF_upd (SF_refl) rfl) rfl) hS_44 (any_sub rfl)) (SA_trans (SA_refl) hA_44 (any_subA rfl)) (y44_0_14) ((ey44_0_14)) (y44_0_15) ((ey44_0_15)) (show (y44_0_14) = 0 ∨ (u0_10) ≤ (y44_0_14) ∧ a1 + (y44_0_14) ≤ (u0_12) ∧ 1 ≤ (y44_0_15) ∧ (y44_0_15) ≤ a1 by omega) (show LGQ ((w2)) ((u0_12)) ((u0_11)) ((u0_10)) (a1) ((y44_0_14)) ((y44_0_15)) by assumption))
            · refine Ew_of (pc' := 77) (fun _ => x_aload_n rfl l44_0) ?_
              refine v_g H (o := 0) (v := .ref (D 1)) rfl rfl rfl rfl rfl (vrf (((hS_44 0 0 rfl)).trans (pf1))) ?_
              refine v_g H (o := 1) (v := .ref (D 2)) rfl rfl rfl rfl rfl (vrf (((hS_44 1 0 rfl)).trans (pf2))) ?_
              refine Ew_of (pc' := 84) (fun _ => x_iload_n rfl l44_2) ?_
              refine Ew_of (pc' := 85) (fun _ => x_aload_n rfl l44_0) ?_
              refine v_g H (o := 0) (v := I (y44_0_14)) rfl rfl rfl rfl rfl (congrArg (fun z : Int => I z) ((ey44_0_14) : F_44 0 14 = y44_0_14)) ?_
              refine w_iadd rfl ?_
              refine v_lB H (o := 2) rfl rfl rfl rfl (n := n2) (en2) (show 0 ≤ (x44_2 + y44_0_14) ∧ (x44_2 + y44_0_14) < n2 by omega) (fun v21 ev21 qv21 => ?_)
              have ev21 : (w2) ((x44_2 + y44_0_14)) = v21 := (congrFun ((funext (hA_44 2 rfl)).trans (ew2)) ((x44_2 + y44_0_14))).symm.trans ev21
              refine Ew_of (pc' := 91) (fun _ => x_aload_n rfl l44_0) ?_
              refine v_g H (o := 0) (v := .ref (D 1)) rfl rfl rfl rfl rfl (vrf (((hS_44 0 0 rfl)).trans (pf1))) ?_
              refine v_g H (o := 1) (v := .ref (D 2)) rfl rfl rfl rfl rfl (vrf (((hS_44 1 0 rfl)).trans (pf2))) ?_
              refine Ew_of (pc' := 98) (fun _ => x_iload_n rfl l44_1) ?_
              refine Ew_of (pc' := 99) (fun _ => x_aload_n rfl l44_0) ?_
              refine v_g H (o := 0) (v := I (y44_0_14)) rfl rfl rfl rfl rfl (congrArg (fun z : Int => I z) ((ey44_0_14) : F_44 0 14 = y44_0_14)) ?_
              refine w_iadd rfl ?_
              refine v_lB H (o := 2) rfl rfl rfl rfl (n := n2) (en2) (show 0 ≤ (a1 + y44_0_14) ∧ (a1 + y44_0_14) < n2 by omega) (fun v22 ev22 qv22 => ?_)
              have ev22 : (w2) ((a1 + y44_0_14)) = v22 := (congrFun ((funext (hA_44 2 rfl)).trans (ew2)) ((a1 + y44_0_14))).symm.trans ev22
              have hb1 := ev21
              have hb2 := ev22
              refine w_icmpne (t := 146) rfl rfl (show inr (v21) by omega) (show inr (v22) by omega) (fun b23 => ?_) (fun b23 => ?_)
              · refine Ew_of (pc' := 147) (fun _ => x_aload_n rfl l44_0) ?_
                refine v_g H (o := 0) (v := .ref (D 3)) rfl rfl rfl rfl rfl (vrf (((hS_44 0 8 rfl)).trans (pf3))) ?_
                refine Ew_of (pc' := 151) (fun _ => x_iload_n rfl l44_2) ?_
                refine v_lI H (o := 3) rfl rfl rfl rfl (n := n3) (en3) (show 0 ≤ x44_2 ∧ x44_2 < n3 by omega) (fun v24 ev24 qv24 => ?_)
                have ev24 : (w3) (x44_2) = v24 := (congrFun ((funext (hA_44 3 rfl)).trans (ew3)) (x44_2)).symm.trans ev24
                have hb6 := hbk ((x44_2)) (by omega) (by omega)
                rw [ev24] at hb6
                have hb7 : -1 ≤ (v24) ∧ (v24) < (x44_2) := ⟨hb6.1, hb6.2.1⟩
                have hh7 : IMP ((0 : Int) ≤ (v24)) (hsh ((w2)) ((u0_10)) ((v24)) = hsh ((w2)) ((u0_10)) ((a1))) := fun z => (hb6.2.2.1 z).trans (j44_h (by omega))
                clear hb6
                have hl1 : LBQ ((w2)) ((u0_12)) ((u0_11)) ((u0_10)) ((a1)) ((v24)) ((y44_0_14)) ((y44_0_15)) := by first | exact LBQ_take j44_l hcp.symm (by omega) (by omega) (by omega) (by omega) (by omega) (BKI_gap hbk (by omega) (by omega) (j44_h (by omega)) ev24) hb7.2 | exact LBQ_skip j44_l (by omega) (by rw [← hcp]; omega) (BKI_gap hbk (by omega) (by omega) (j44_h (by omega)) ev24) hb7.2 | exact LBQ_skip j44_l (by omega) (.inl (cpl_lt (by rw [hb1, hb2]; omega) (by omega))) (BKI_gap hbk (by omega) (by omega) (j44_h (by omega)) ev24) hb7.2
                refine Ew_of (pc' := 153) (fun _ => x_istore_n rfl) ?_
                refine Ew_of (pc' := 156) (fun _ => x_iinc (len := 3) rfl (rk_o (l44_3) rfl rfl)) ?_
                refine Ew_of (pc' := 44) (fun _ => x_goto rfl rfl) ?_
                exact ih44 _ (by omega) _ _ _ _ (v24) ((x44_3 + 1)) (rk_o (rk_o (l44_0) rfl rfl) rfl rfl) (rk_o (rk_o (l44_1) rfl rfl) rfl rfl) (rk_o (rk_s) rfl rfl) (rk_s) H O (hS_44) (hA_44)   (y44_0_14) ((ey44_0_14)) (y44_0_15) ((ey44_0_15))  (show inr (v24) by omega) (show inr ((x44_3 + 1)) by omega) (show (0) ≤ ((x44_3 + 1)) by omega) (show ((x44_3 + 1)) ≤ (0) ∨ ((x44_3 + 1)) ≤ ((a1)) by omega) (show -1 ≤ (v24) ∧ (v24) < (a1) by omega) (show (y44_0_14) = 0 ∨ (u0_10) ≤ (y44_0_14) ∧ (a1) + (y44_0_14) ≤ (u0_12) ∧ 1 ≤ (y44_0_15) ∧ (y44_0_15) ≤ (a1) by omega) (show (y44_0_14) ≤ 16384 by omega) (show (v24) ≤ (a1) - 1 - ((x44_3 + 1)) by omega) (show LBQ ((w2)) ((u0_12)) ((u0_11)) ((u0_10)) ((a1)) ((v24)) ((y44_0_14)) ((y44_0_15)) by assumption) (show IMP ((0 : Int) ≤ (v24)) (hsh ((w2)) ((u0_10)) ((v24)) = hsh ((w2)) ((u0_10)) ((a1))) by assumption) rfl
              · refine Ew_of (pc' := 108) (fun _ => x_aload_n rfl l44_0) ?_
                refine Ew_of (pc' := 109) (fun _ => x_iload_n rfl l44_2) ?_
                refine Ew_of (pc' := 110) (fun _ => x_iload_n rfl l44_1) ?_
                refine v_inv H (o := 0) rfl rfl rfl rfl rfl rfl (by rfl) (C128 (D := pul [0, 1, 2] D) (N := pul [0, 1, 2] N) (HW_sub H (VS_of (show vsub V130 V128 [0, 1, 2] = true by decide +kernel))) (((hS_44 0 0 rfl)).trans (pf1)) (((hS_44 1 0 rfl)).trans (pf2)) (n2) (en2) (u0_12) (((hS_44 0 12 rfl).trans (eu0_12))) (u1_1) (((hS_44 1 1 rfl).trans (eu1_1))) (w2) ((funext (hA_44 2 rfl)).trans (ew2)) (show inr (x44_2) by omega) (show inr (a1) by omega) (show 0 ≤ (u1_1) ∧ (u1_1) ≤ (n2) ∧ (n2) ≤ 65536 ∧ (u1_1) ≤ 16384 by omega) (show (u0_12) ≤ (u1_1) by omega) (show 0 ≤ (x44_2) ∧ (x44_2) ≤ (a1) ∧ (a1) ≤ 16384 by omega) (fun z25 σ25 F25' A25' H' O' hS25 hA25 pz25_0 pz25_1 pz25_2 pz25_3 => ⟨rfl, ?_⟩))
                refine v_back (c := c) (s := s) H (show vsub V130 V128 [0, 1, 2] = true by decide +kernel) H' O' (fun F25 A25 H O' eF25 eA25 => ?_)
                have O := OUT_trans O O'
                -- Finder.common
                have hcp : (z25) = cpl ((w2)) ((x44_2)) ((a1)) ((u0_12)) := pz25_3
                refine Ew_of (pc' := 115) (fun _ => x_istore rfl) ?_
                refine Ew_of (pc' := 117) (fun _ => x_iload rfl rk_s) ?_
                refine Ew_of (pc' := 118) (fun _ => x_aload_n rfl (rk_o (l44_0) rfl rfl)) ?_
                refine v_g H (o := 0) (v := I (u0_10)) rfl rfl rfl rfl rfl (congrArg (fun z : Int => I z) (((((show F25 0 10 = F_44 0 10 from (eF25 0 10).trans (hS25 0 10 rfl))).trans (hS_44 0 10 rfl)).trans (eu0_10)) : F25 0 10 = u0_10)) ?_
                refine w_icmplt (t := 146) rfl rfl (show inr (z25) by omega) (show inr (u0_10) by omega) (fun b26 => ?_) (fun b26 => ?_)
                · refine Ew_of (pc' := 147) (fun _ => x_aload_n rfl (rk_o (l44_0) rfl rfl)) ?_
                  refine v_g H (o := 0) (v := .ref (D 3)) rfl rfl rfl rfl rfl (vrf (((((show F25 0 8 = F_44 0 8 from (eF25 0 8).trans (hS25 0 8 rfl))).trans (hS_44 0 8 rfl))).trans (pf3))) ?_
                  refine Ew_of (pc' := 151) (fun _ => x_iload_n rfl (rk_o (l44_2) rfl rfl)) ?_
                  refine v_lI H (o := 3) rfl rfl rfl rfl (n := n3) (en3) (show 0 ≤ x44_2 ∧ x44_2 < n3 by omega) (fun v27 ev27 qv27 => ?_)
                  have ev27 : (w3) (x44_2) = v27 := (congrFun (((show A25 3 = A_44 3 from (eA25 3))).trans ((funext (hA_44 3 rfl)).trans (ew3))) (x44_2)).symm.trans ev27
                  have hb6 := hbk ((x44_2)) (by omega) (by omega)
                  rw [ev27] at hb6
                  have hb7 : -1 ≤ (v27) ∧ (v27) < (x44_2) := ⟨hb6.1, hb6.2.1⟩
                  have hh7 : IMP ((0 : Int) ≤ (v27)) (hsh ((w2)) ((u0_10)) ((v27)) = hsh ((w2)) ((u0_10)) ((a1))) := fun z => (hb6.2.2.1 z).trans (j44_h (by omega))
                  clear hb6
                  have hl1 : LBQ ((w2)) ((u0_12)) ((u0_11)) ((u0_10)) ((a1)) ((v27)) ((y44_0_14)) ((y44_0_15)) := by first | exact LBQ_take j44_l hcp.symm (by omega) (by omega) (by omega) (by omega) (by omega) (BKI_gap hbk (by omega) (by omega) (j44_h (by omega)) ev27) hb7.2 | exact LBQ_skip j44_l (by omega) (by rw [← hcp]; omega) (BKI_gap hbk (by omega) (by omega) (j44_h (by omega)) ev27) hb7.2 | exact LBQ_skip j44_l (by omega) (.inl (cpl_lt (by rw [hb1, hb2]; omega) (by omega))) (BKI_gap hbk (by omega) (by omega) (j44_h (by omega)) ev27) hb7.2
                  refine Ew_of (pc' := 153) (fun _ => x_istore_n rfl) ?_
                  refine Ew_of (pc' := 156) (fun _ => x_iinc (len := 3) rfl (rk_o (rk_o (l44_3) rfl rfl) rfl rfl)) ?_
                  refine Ew_of (pc' := 44) (fun _ => x_goto rfl rfl) ?_
                  exact ih44 _ (by omega) _ _ _ _ (v27) ((x44_3 + 1)) (rk_o (rk_o (rk_o (l44_0) rfl rfl) rfl rfl) rfl rfl) (rk_o (rk_o (rk_o (l44_1) rfl rfl) rfl rfl) rfl rfl) (rk_o (rk_s) rfl rfl) (rk_s) H O (SF_trans (hS_44) (SF_glu (ι := [0, 1, 2]) hS25 eF25 (by decide +kernel)) (any_sub (l' := []) rfl)) (SA_trans (hA_44) (SA_glu (ι := [0, 1, 2]) hA25 eA25 (by decide +kernel)) (any_subA (l' := []) rfl))   (y44_0_14) ((((show F25 0 14 = F_44 0 14 from (eF25 0 14).trans (hS25 0 14 rfl))).trans (ey44_0_14))) (y44_0_15) ((((show F25 0 15 = F_44 0 15 from (eF25 0 15).trans (hS25 0 15 rfl))).trans (ey44_0_15)))  (show inr (v27) by omega) (show inr ((x44_3 + 1)) by omega) (show (0) ≤ ((x44_3 + 1)) by omega) (show ((x44_3 + 1)) ≤ (0) ∨ ((x44_3 + 1)) ≤ ((a1)) by omega) (show -1 ≤ (v27) ∧ (v27) < (a1) by omega) (show (y44_0_14) = 0 ∨ (u0_10) ≤ (y44_0_14) ∧ (a1) + (y44_0_14) ≤ (u0_12) ∧ 1 ≤ (y44_0_15) ∧ (y44_0_15) ≤ (a1) by omega) (show (y44_0_14) ≤ 16384 by omega) (show (v27) ≤ (a1) - 1 - ((x44_3 + 1)) by omega) (show LBQ ((w2)) ((u0_12)) ((u0_11)) ((u0_10)) ((a1)) ((v27)) ((y44_0_14)) ((y44_0_15)) by assumption) (show IMP ((0 : Int) ≤ (v27)) (hsh ((w2)) ((u0_10)) ((v27)) = hsh ((w2)) ((u0_10)) ((a1))) by assumption) rfl
                · refine Ew_of (pc' := 126) (fun _ => x_iload rfl rk_s) ?_
                  refine Ew_of (pc' := 127) (fun _ => x_aload_n rfl (rk_o (l44_0) rfl rfl)) ?_
                  refine v_g H (o := 0) (v := I (y44_0_14)) rfl rfl rfl rfl rfl (congrArg (fun z : Int => I z) ((((show F25 0 14 = F_44 0 14 from (eF25 0 14).trans (hS25 0 14 rfl))).trans (ey44_0_14)) : F25 0 14 = y44_0_14)) ?_
                  refine w_icmple (t := 146) rfl rfl (show inr (z25) by omega) (show inr (y44_0_14) by omega) (fun b28 => ?_) (fun b28 => ?_)
                  · refine Ew_of (pc' := 147) (fun _ => x_aload_n rfl (rk_o (l44_0) rfl rfl)) ?_
                    refine v_g H (o := 0) (v := .ref (D 3)) rfl rfl rfl rfl rfl (vrf (((((show F25 0 8 = F_44 0 8 from (eF25 0 8).trans (hS25 0 8 rfl))).trans (hS_44 0 8 rfl))).trans (pf3))) ?_
                    refine Ew_of (pc' := 151) (fun _ => x_iload_n rfl (rk_o (l44_2) rfl rfl)) ?_
                    refine v_lI H (o := 3) rfl rfl rfl rfl (n := n3) (en3) (show 0 ≤ x44_2 ∧ x44_2 < n3 by omega) (fun v29 ev29 qv29 => ?_)
                    have ev29 : (w3) (x44_2) = v29 := (congrFun (((show A25 3 = A_44 3 from (eA25 3))).trans ((funext (hA_44 3 rfl)).trans (ew3))) (x44_2)).symm.trans ev29
                    have hb6 := hbk ((x44_2)) (by omega) (by omega)
                    rw [ev29] at hb6
                    have hb7 : -1 ≤ (v29) ∧ (v29) < (x44_2) := ⟨hb6.1, hb6.2.1⟩
                    have hh7 : IMP ((0 : Int) ≤ (v29)) (hsh ((w2)) ((u0_10)) ((v29)) = hsh ((w2)) ((u0_10)) ((a1))) := fun z => (hb6.2.2.1 z).trans (j44_h (by omega))
                    clear hb6
                    have hl1 : LBQ ((w2)) ((u0_12)) ((u0_11)) ((u0_10)) ((a1)) ((v29)) ((y44_0_14)) ((y44_0_15)) := by first | exact LBQ_take j44_l hcp.symm (by omega) (by omega) (by omega) (by omega) (by omega) (BKI_gap hbk (by omega) (by omega) (j44_h (by omega)) ev29) hb7.2 | exact LBQ_skip j44_l (by omega) (by rw [← hcp]; omega) (BKI_gap hbk (by omega) (by omega) (j44_h (by omega)) ev29) hb7.2 | exact LBQ_skip j44_l (by omega) (.inl (cpl_lt (by rw [hb1, hb2]; omega) (by omega))) (BKI_gap hbk (by omega) (by omega) (j44_h (by omega)) ev29) hb7.2
                    refine Ew_of (pc' := 153) (fun _ => x_istore_n rfl) ?_
                    refine Ew_of (pc' := 156) (fun _ => x_iinc (len := 3) rfl (rk_o (rk_o (l44_3) rfl rfl) rfl rfl)) ?_
                    refine Ew_of (pc' := 44) (fun _ => x_goto rfl rfl) ?_
                    exact ih44 _ (by omega) _ _ _ _ (v29) ((x44_3 + 1)) (rk_o (rk_o (rk_o (l44_0) rfl rfl) rfl rfl) rfl rfl) (rk_o (rk_o (rk_o (l44_1) rfl rfl) rfl rfl) rfl rfl) (rk_o (rk_s) rfl rfl) (rk_s) H O (SF_trans (hS_44) (SF_glu (ι := [0, 1, 2]) hS25 eF25 (by decide +kernel)) (any_sub (l' := []) rfl)) (SA_trans (hA_44) (SA_glu (ι := [0, 1, 2]) hA25 eA25 (by decide +kernel)) (any_subA (l' := []) rfl))   (y44_0_14) ((((show F25 0 14 = F_44 0 14 from (eF25 0 14).trans (hS25 0 14 rfl))).trans (ey44_0_14))) (y44_0_15) ((((show F25 0 15 = F_44 0 15 from (eF25 0 15).trans (hS25 0 15 rfl))).trans (ey44_0_15)))  (show inr (v29) by omega) (show inr ((x44_3 + 1)) by omega) (show (0) ≤ ((x44_3 + 1)) by omega) (show ((x44_3 + 1)) ≤ (0) ∨ ((x44_3 + 1)) ≤ ((a1)) by omega) (show -1 ≤ (v29) ∧ (v29) < (a1) by omega) (show (y44_0_14) = 0 ∨ (u0_10) ≤ (y44_0_14) ∧ (a1) + (y44_0_14) ≤ (u0_12) ∧ 1 ≤ (y44_0_15) ∧ (y44_0_15) ≤ (a1) by omega) (show (y44_0_14) ≤ 16384 by omega) (show (v29) ≤ (a1) - 1 - ((x44_3 + 1)) by omega) (show LBQ ((w2)) ((u0_12)) ((u0_11)) ((u0_10)) ((a1)) ((v29)) ((y44_0_14)) ((y44_0_15)) by assumption) (show IMP ((0 : Int) ≤ (v29)) (hsh ((w2)) ((u0_10)) ((v29)) = hsh ((w2)) ((u0_10)) ((a1))) by assumption) rfl
                  · refine Ew_of (pc' := 134) (fun _ => x_aload_n rfl (rk_o (l44_0) rfl rfl)) ?_
                    refine Ew_of (pc' := 136) (fun _ => x_iload rfl rk_s) ?_
                    refine v_p H (o := 0) (z := z25) (v := I (z25)) rfl rfl rfl rfl rfl rfl rfl rfl (show (-2147483648 : Int) ≤ z25 ∧ z25 ≤ 2147483647 by omega) (fun σ H O' => ?_)
                    have O := OUT_trans O O'
                    refine Ew_of (pc' := 140) (fun _ => x_aload_n rfl (rk_o (l44_0) rfl rfl)) ?_
                    refine Ew_of (pc' := 141) (fun _ => x_iload_n rfl (rk_o (l44_1) rfl rfl)) ?_
                    refine Ew_of (pc' := 142) (fun _ => x_iload_n rfl (rk_o (l44_2) rfl rfl)) ?_
                    refine w_isub rfl ?_
                    refine v_p H (o := 0) (z := (a1 - x44_2)) (v := I ((a1 - x44_2))) rfl rfl rfl rfl rfl rfl rfl rfl (show (-2147483648 : Int) ≤ (a1 - x44_2) ∧ (a1 - x44_2) ≤ 2147483647 by omega) (fun σ H O' => ?_)
                    have O := OUT_trans O O'
                    refine Ew_of (pc' := 147) (fun _ => x_aload_n rfl (rk_o (l44_0) rfl rfl)) ?_
                    refine v_g H (o := 0) (v := .ref (D 3)) rfl rfl rfl rfl rfl (vrf (((((show F25 0 8 = F_44 0 8 from (eF25 0 8).trans (hS25 0 8 rfl))).trans (hS_44 0 8 rfl))).trans (pf3))) ?_
                    refine Ew_of (pc' := 151) (fun _ => x_iload_n rfl (rk_o (l44_2) rfl rfl)) ?_
                    refine v_lI H (o := 3) rfl rfl rfl rfl (n := n3) (en3) (show 0 ≤ x44_2 ∧ x44_2 < n3 by omega) (fun v30 ev30 qv30 => ?_)
                    have ev30 : (w3) (x44_2) = v30 := (congrFun (((show A25 3 = A_44 3 from (eA25 3))).trans ((funext (hA_44 3 rfl)).trans (ew3))) (x44_2)).symm.trans ev30
                    have hb6 := hbk ((x44_2)) (by omega) (by omega)
                    rw [ev30] at hb6
                    have hb7 : -1 ≤ (v30) ∧ (v30) < (x44_2) := ⟨hb6.1, hb6.2.1⟩
                    have hh7 : IMP ((0 : Int) ≤ (v30)) (hsh ((w2)) ((u0_10)) ((v30)) = hsh ((w2)) ((u0_10)) ((a1))) := fun z => (hb6.2.2.1 z).trans (j44_h (by omega))
                    clear hb6
                    have hl1 : LBQ ((w2)) ((u0_12)) ((u0_11)) ((u0_10)) ((a1)) ((v30)) ((z25)) (((a1 - x44_2))) := by first | exact LBQ_take j44_l hcp.symm (by omega) (by omega) (by omega) (by omega) (by omega) (BKI_gap hbk (by omega) (by omega) (j44_h (by omega)) ev30) hb7.2 | exact LBQ_skip j44_l (by omega) (by rw [← hcp]; omega) (BKI_gap hbk (by omega) (by omega) (j44_h (by omega)) ev30) hb7.2 | exact LBQ_skip j44_l (by omega) (.inl (cpl_lt (by rw [hb1, hb2]; omega) (by omega))) (BKI_gap hbk (by omega) (by omega) (j44_h (by omega)) ev30) hb7.2
                    refine Ew_of (pc' := 153) (fun _ => x_istore_n rfl) ?_
                    refine Ew_of (pc' := 156) (fun _ => x_iinc (len := 3) rfl (rk_o (rk_o (l44_3) rfl rfl) rfl rfl)) ?_
                    refine Ew_of (pc' := 44) (fun _ => x_goto rfl rfl) ?_
                    exact ih44 _ (by omega) _ _ _ _ (v30) ((x44_3 + 1)) (rk_o (rk_o (rk_o (l44_0) rfl rfl) rfl rfl) rfl rfl) (rk_o (rk_o (rk_o (l44_1) rfl rfl) rfl rfl) rfl rfl) (rk_o (rk_s) rfl rfl) (rk_s) H O (SF_upd (SF_upd (SF_trans (hS_44) (SF_glu (ι := [0, 1, 2]) hS25 eF25 (by decide +kernel)) (any_sub (l' := []) rfl)) rfl) rfl) (SA_trans (hA_44) (SA_glu (ι := [0, 1, 2]) hA25 eA25 (by decide +kernel)) (any_subA (l' := []) rfl))   (z25) (rfl) ((a1 - x44_2)) (rfl)  (show inr (v30) by omega) (show inr ((x44_3 + 1)) by omega) (show (0) ≤ ((x44_3 + 1)) by omega) (show ((x44_3 + 1)) ≤ (0) ∨ ((x44_3 + 1)) ≤ ((a1)) by omega) (show -1 ≤ (v30) ∧ (v30) < (a1) by omega) (show (z25) = 0 ∨ (u0_10) ≤ (z25) ∧ (a1) + (z25) ≤ (u0_12) ∧ 1 ≤ ((a1 - x44_2)) ∧ ((a1 - x44_2)) ≤ (a1) by omega) (show (z25) ≤ 16384 by omega) (show (v30) ≤ (a1) - 1 - ((x44_3 + 1)) by omega) (show LBQ ((w2)) ((u0_12)) ((u0_11)) ((u0_10)) ((a1)) ((v30)) ((z25)) (((a1 - x44_2))) by assumption) (show IMP ((0 : Int) ≤ (v30)) (hsh ((w2)) ((u0_10)) ((v30)) = hsh ((w2)) ((u0_10)) ((a1))) by assumption) rfl
  · refine Ew_of (pc' := 9) (fun _ => x_aload_n rfl rfl) ?_
    refine Ew_of (pc' := 10) (fun _ => x_aload_n rfl rfl) ?_
    refine v_g H (o := 0) (v := I (u0_17)) rfl rfl rfl rfl rfl (congrArg (fun z : Int => I z) ((eu0_17) : F 0 17 = u0_17)) ?_
    refine v_p H (o := 0) (z := u0_17) (v := I (u0_17)) rfl rfl rfl rfl rfl rfl rfl rfl (show (-2147483648 : Int) ≤ u0_17 ∧ u0_17 ≤ 2147483647 by omega) (fun σ H O' => ?_)
    have O := OUT_trans O O'
    refine Ew_of (pc' := 17) (fun _ => x_aload_n rfl rfl) ?_
    refine Ew_of (pc' := 18) (fun _ => x_aload_n rfl rfl) ?_
    refine v_g H (o := 0) (v := I (u0_18)) rfl rfl rfl rfl rfl (congrArg (fun z : Int => I z) ((eu0_18) : (updF F 0 14 (u0_17)) 0 18 = u0_18)) ?_
    refine v_p H (o := 0) (z := u0_18) (v := I (u0_18)) rfl rfl rfl rfl rfl rfl rfl rfl (show (-2147483648 : Int) ≤ u0_18 ∧ u0_18 ≤ 2147483647 by omega) (fun σ H O' => ?_)
    have O := OUT_trans O O'
    have : LGQ ((w2)) ((u0_12)) ((u0_11)) ((u0_10)) ((a1)) ((u0_17)) ((u0_18)) := (show ((u0_16) : Int) = (a1) by omega) ▸ hah (by omega)
    exact w_ret rfl (k _ _ _ H O (SF_upd (SF_upd (SF_refl) rfl) rfl) (SA_refl) (u0_17) (rfl) (u0_18) (rfl) (show (u0_17) = 0 ∨ (u0_10) ≤ (u0_17) ∧ a1 + (u0_17) ≤ (u0_12) ∧ 1 ≤ (u0_18) ∧ (u0_18) ≤ a1 by omega) (show LGQ ((w2)) ((u0_12)) ((u0_11)) ((u0_10)) (a1) ((u0_17)) ((u0_18)) by assumption))
abbrev V127 : vV := [(0, 5, [(4, 0), (4, 0), (4, 0), (4, 0), (0, 0), (0, 0), (0, 0), (4, 0), (4, 0), (0, 0), (0, 0), (0, 0), (0, 0), (0, 0), (0, 0), (0, 0), (0, 0), (0, 0), (0, 0)]), (0, 7, [(4, 0), (0, 0), (1, 0), (0, 0), (0, 0)]), (1, 0, []), (1, 1, [])]
/-- Finder.matchAt: this, this.data, this.data.bytes, this.back -/
theorem C127 {σE : rS} {D N : Nat → Nat} {F : hF} {A : hA} {d c s : Nat} {Q : wQ} (H : HW V127 σE D N F A) {a1 : Int} (pf1 : F 0 0 = (D 1 : Int)) (pf2 : F 1 0 = (D 2 : Int)) (pf3 : F 0 8 = (D 3 : Int)) (n2 : Int) (en2 : (N 2 : Int) = n2) (n3 : Int) (en3 : (N 3 : Int) = n3) (u0_6 : Int) (eu0_6 : F 0 6 = u0_6) (u0_9 : Int) (eu0_9 : F 0 9 = u0_9) (u0_10 : Int) (eu0_10 : F 0 10 = u0_10) (u0_11 : Int) (eu0_11 : F 0 11 = u0_11) (u0_12 : Int) (eu0_12 : F 0 12 = u0_12) (u0_13 : Int) (eu0_13 : F 0 13 = u0_13) (u0_14 : Int) (eu0_14 : F 0 14 = u0_14) (u0_15 : Int) (eu0_15 : F 0 15 = u0_15) (u0_16 : Int) (eu0_16 : F 0 16 = u0_16) (u0_17 : Int) (eu0_17 : F 0 17 = u0_17) (u0_18 : Int) (eu0_18 : F 0 18 = u0_18) (u1_1 : Int) (eu1_1 : F 1 1 = u1_1) (w2 : Int → Int) (ew2 : A 2 = w2) (w3 : Int → Int) (ew3 : A 3 = w3) (h0 : inr (a1)) (h1 : 0 ≤ (u1_1) ∧ (u1_1) ≤ (n2) ∧ (n2) ≤ 65536 ∧ (u1_1) ≤ 16384) (h2 : (u0_12) ≤ (u1_1)) (h3 : 1 ≤ (u0_10) ∧ (u0_10) ≤ 8) (h4 : 0 ≤ (a1) ∧ (a1) < (u0_6)) (h5 : (u0_6) ≤ (n3) ∧ (n3) ≤ 16384) (h6 : BKI ((w2)) ((w3)) ((u0_10)) ((u0_6))) (h7 : (u0_16) = -1 ∨ (u0_17) = 0 ∨ (u0_10) ≤ (u0_17) ∧ (u0_16) + (u0_17) ≤ (u0_12) ∧ 1 ≤ (u0_18) ∧ (u0_18) ≤ (u0_16)) (h8 : (u0_13) < (u0_6)) (h9 : (a1) ≤ (u0_13)) (h10 : IMP ((0 : Int) ≤ (u0_16)) (LGQ ((w2)) ((u0_12)) ((u0_11)) ((u0_10)) ((u0_16)) ((u0_17)) ((u0_18)))) (k : ∀ (z : Int) (σ : rS) (F' : hF) (A' : hA), HW V127 σ D N F' A' → OUT (V127).length D N σE c s D N σ c s → SF [(0, 14), (0, 15), (0, 16), (0, 17), (0, 18)] F F' → SA [] A A' → ∀ y0_14 : Int, F' 0 14 = y0_14 → ∀ y0_15 : Int, F' 0 15 = y0_15 → ∀ y0_16 : Int, F' 0 16 = y0_16 → ∀ y0_17 : Int, F' 0 17 = y0_17 → ∀ y0_18 : Int, F' 0 18 = y0_18 → ((z) = 0 ∨ (z) = 1) → ((z) = 1 → (u0_10) ≤ (y0_14) ∧ (a1) + (y0_14) ≤ (u0_12) ∧ 1 ≤ (y0_15) ∧ (y0_15) ≤ (a1)) → ((y0_16) = -1 ∨ (y0_17) = 0 ∨ (u0_10) ≤ (y0_17) ∧ (y0_16) + (y0_17) ≤ (u0_12) ∧ 1 ≤ (y0_18) ∧ (y0_18) ≤ (y0_16)) → (MT ((w2)) ((u0_12)) ((u0_11)) ((u0_10)) ((u0_9)) ((u0_13)) ((a1)) ((z) * (y0_14)) ((y0_15))) → (IMP ((0 : Int) ≤ (y0_16)) (LGQ ((w2)) ((u0_12)) ((u0_11)) ((u0_10)) ((y0_16)) ((y0_17)) ((y0_18)))) → Q (some (I z)) σ c s) : Ew 127 (d + 2) 0 (rargs 0 [.ref (D 0), I a1]) [] σE c s Q := by
  have O := OUT_refl (n := (V127).length) (D := D) (N := N) (σ := σE) (c := c) (s := s)
  have HE := H
  have r1 : (-2147483648 : Int) ≤ u0_6 ∧ u0_6 ≤ 2147483647 := by have h1 : (-2147483648 : Int) ≤ F 0 6 ∧ F 0 6 ≤ 2147483647 := H.krg 0 6 (by decide); rw [show F 0 6 = u0_6 from (eu0_6)] at h1; exact h1
  have r2 : (-2147483648 : Int) ≤ u0_9 ∧ u0_9 ≤ 2147483647 := by have h1 : (-2147483648 : Int) ≤ F 0 9 ∧ F 0 9 ≤ 2147483647 := H.krg 0 9 (by decide); rw [show F 0 9 = u0_9 from (eu0_9)] at h1; exact h1
  have r3 : (-2147483648 : Int) ≤ u0_10 ∧ u0_10 ≤ 2147483647 := by have h1 : (-2147483648 : Int) ≤ F 0 10 ∧ F 0 10 ≤ 2147483647 := H.krg 0 10 (by decide); rw [show F 0 10 = u0_10 from (eu0_10)] at h1; exact h1
  have r4 : (-2147483648 : Int) ≤ u0_11 ∧ u0_11 ≤ 2147483647 := by have h1 : (-2147483648 : Int) ≤ F 0 11 ∧ F 0 11 ≤ 2147483647 := H.krg 0 11 (by decide); rw [show F 0 11 = u0_11 from (eu0_11)] at h1; exact h1
  have r5 : (-2147483648 : Int) ≤ u0_12 ∧ u0_12 ≤ 2147483647 := by have h1 : (-2147483648 : Int) ≤ F 0 12 ∧ F 0 12 ≤ 2147483647 := H.krg 0 12 (by decide); rw [show F 0 12 = u0_12 from (eu0_12)] at h1; exact h1
  have r6 : (-2147483648 : Int) ≤ u0_13 ∧ u0_13 ≤ 2147483647 := by have h1 : (-2147483648 : Int) ≤ F 0 13 ∧ F 0 13 ≤ 2147483647 := H.krg 0 13 (by decide); rw [show F 0 13 = u0_13 from (eu0_13)] at h1; exact h1
  have r7 : (-2147483648 : Int) ≤ u0_14 ∧ u0_14 ≤ 2147483647 := by have h1 : (-2147483648 : Int) ≤ F 0 14 ∧ F 0 14 ≤ 2147483647 := H.krg 0 14 (by decide); rw [show F 0 14 = u0_14 from (eu0_14)] at h1; exact h1
  have r8 : (-2147483648 : Int) ≤ u0_15 ∧ u0_15 ≤ 2147483647 := by have h1 : (-2147483648 : Int) ≤ F 0 15 ∧ F 0 15 ≤ 2147483647 := H.krg 0 15 (by decide); rw [show F 0 15 = u0_15 from (eu0_15)] at h1; exact h1
  have r9 : (-2147483648 : Int) ≤ u0_16 ∧ u0_16 ≤ 2147483647 := by have h1 : (-2147483648 : Int) ≤ F 0 16 ∧ F 0 16 ≤ 2147483647 := H.krg 0 16 (by decide); rw [show F 0 16 = u0_16 from (eu0_16)] at h1; exact h1
  have r10 : (-2147483648 : Int) ≤ u0_17 ∧ u0_17 ≤ 2147483647 := by have h1 : (-2147483648 : Int) ≤ F 0 17 ∧ F 0 17 ≤ 2147483647 := H.krg 0 17 (by decide); rw [show F 0 17 = u0_17 from (eu0_17)] at h1; exact h1
  have r11 : (-2147483648 : Int) ≤ u0_18 ∧ u0_18 ≤ 2147483647 := by have h1 : (-2147483648 : Int) ≤ F 0 18 ∧ F 0 18 ≤ 2147483647 := H.krg 0 18 (by decide); rw [show F 0 18 = u0_18 from (eu0_18)] at h1; exact h1
  have r12 : (-2147483648 : Int) ≤ u1_1 ∧ u1_1 ≤ 2147483647 := by have h1 : (-2147483648 : Int) ≤ F 1 1 ∧ F 1 1 ≤ 2147483647 := H.krg 1 1 (by decide); rw [show F 1 1 = u1_1 from (eu1_1)] at h1; exact h1
  have r13 : (0 : Int) ≤ n2 ∧ n2 ≤ 1000000 := by have h1 := H.nle 2 (by decide); have h2 : (N 2 : Int) = n2 := en2; omega
  have r14 : (0 : Int) ≤ n3 ∧ n3 ≤ 1000000 := by have h1 := H.nle 3 (by decide); have h2 : (N 3 : Int) = n3 := en3; omega
  have hah0 : IMP ((0 : Int) ≤ (u0_16)) (LGQ ((w2)) ((u0_12)) ((u0_11)) ((u0_10)) ((u0_16)) ((u0_17)) ((u0_18))) := by assumption
  refine Ew_of (pc' := 1) (fun _ => x_aload_n rfl rfl) ?_
  refine v_g H (o := 0) (v := I (u0_9)) rfl rfl rfl rfl rfl (congrArg (fun z : Int => I z) ((eu0_9) : F 0 9 = u0_9)) ?_
  refine Ew_of (pc' := 5) (fun _ => x_iconst rfl) ?_
  refine w_icmpge (t := 44) rfl rfl (show inr (u0_9) by omega) (show inr (2) by omega) (fun b15 => ?_) (fun b15 => ?_)
  · refine Ew_of (pc' := 45) (fun _ => x_aload_n rfl rfl) ?_
    refine Ew_of (pc' := 46) (fun _ => x_iload_n rfl rfl) ?_
    refine v_inv H (o := 0) rfl rfl rfl rfl rfl rfl (by rfl) (C130 (D := pul [0, 1, 2, 3] D) (N := pul [0, 1, 2, 3] N) (HW_sub H (VS_of (show vsub V127 V130 [0, 1, 2, 3] = true by decide +kernel))) (pf1) (pf2) (pf3) (n2) (en2) (n3) (en3) (u0_6) ((eu0_6)) (u0_10) ((eu0_10)) (u0_11) ((eu0_11)) (u0_12) ((eu0_12)) (u0_14) ((eu0_14)) (u0_15) ((eu0_15)) (u0_16) ((eu0_16)) (u0_17) ((eu0_17)) (u0_18) ((eu0_18)) (u1_1) ((eu1_1)) (w2) (ew2) (w3) (ew3) (show inr (a1) by omega) (show 0 ≤ (u1_1) ∧ (u1_1) ≤ (n2) ∧ (n2) ≤ 65536 ∧ (u1_1) ≤ 16384 by omega) (show (u0_12) ≤ (u1_1) by omega) (show 1 ≤ (u0_10) ∧ (u0_10) ≤ 8 by omega) (show 0 ≤ (a1) ∧ (a1) < (u0_6) by omega) (show (u0_6) ≤ (n3) ∧ (n3) ≤ 16384 by omega) (show BKI ((w2)) ((w3)) ((u0_10)) ((u0_6)) by assumption) (show (u0_16) = -1 ∨ (u0_17) = 0 ∨ (u0_10) ≤ (u0_17) ∧ (u0_16) + (u0_17) ≤ (u0_12) ∧ 1 ≤ (u0_18) ∧ (u0_18) ≤ (u0_16) by omega) (show IMP ((0 : Int) ≤ (u0_16)) (LGQ ((w2)) ((u0_12)) ((u0_11)) ((u0_10)) ((u0_16)) ((u0_17)) ((u0_18))) by assumption) (fun σ16 F16' A16' H' O' hS16 hA16 y16_0_14 ey16_0_14 y16_0_15 ey16_0_15 pz16_0 pz16_1 => ⟨rfl, ?_⟩))
    refine v_back (c := c) (s := s) H (show vsub V127 V130 [0, 1, 2, 3] = true by decide +kernel) H' O' (fun F16 A16 H O' eF16 eA16 => ?_)
    have O := OUT_trans O O'
    -- Finder.longest
    have r17 : (-2147483648 : Int) ≤ y16_0_14 ∧ y16_0_14 ≤ 2147483647 := by have h1 : (-2147483648 : Int) ≤ F16 0 14 ∧ F16 0 14 ≤ 2147483647 := H.krg 0 14 (by decide); rw [show F16 0 14 = y16_0_14 from ((eF16 0 14).trans ey16_0_14)] at h1; exact h1
    have r18 : (-2147483648 : Int) ≤ y16_0_15 ∧ y16_0_15 ≤ 2147483647 := by have h1 : (-2147483648 : Int) ≤ F16 0 15 ∧ F16 0 15 ≤ 2147483647 := H.krg 0 15 (by decide); rw [show F16 0 15 = y16_0_15 from ((eF16 0 15).trans ey16_0_15)] at h1; exact h1
    have hlg : LGQ ((w2)) ((u0_12)) ((u0_11)) ((u0_10)) ((a1)) ((y16_0_14)) ((y16_0_15)) := pz16_1
    refine Ew_of (pc' := 50) (fun _ => x_aload_n rfl rfl) ?_
    refine v_g H (o := 0) (v := I (y16_0_14)) rfl rfl rfl rfl rfl (congrArg (fun z : Int => I z) (((eF16 0 14).trans ey16_0_14) : F16 0 14 = y16_0_14)) ?_
    refine w_ifeq (t := 74) rfl rfl (show inr (y16_0_14) by omega) (fun b19 => ?_) (fun b19 => ?_)
    · refine Ew_of (pc' := 75) (fun _ => x_aload_n rfl rfl) ?_
      refine v_g H (o := 0) (v := I (y16_0_14)) rfl rfl rfl rfl rfl (congrArg (fun z : Int => I z) (((eF16 0 14).trans ey16_0_14) : F16 0 14 = y16_0_14)) ?_
      refine w_ifle (t := 85) rfl rfl (show inr (y16_0_14) by omega) (fun b20 => ?_) (fun b20 => ?_)
      · refine Ew_of (pc' := 86) (fun _ => x_iconst rfl) ?_
        have : MT ((w2)) ((u0_12)) ((u0_11)) ((u0_10)) ((u0_9)) ((u0_13)) ((a1)) ((0) * (y16_0_14)) ((y16_0_15)) := by rcases (show (u0_9) = 2 ∨ 3 ≤ (u0_9) by omega) with w | w <;> first | exact MT_2 w hlg (by omega) | exact MT_3z w hlg (by omega) | exact MT_3e w hlg (by omega) (by omega)
        exact w_ireturn rfl (k (0) _ _ _ H O (SF_trans (SF_refl) (SF_glu (ι := [0, 1, 2, 3]) hS16 eF16 (by decide +kernel)) (any_sub (l' := [(0, 14), (0, 15)]) rfl)) (SA_trans (SA_refl) (SA_glu (ι := [0, 1, 2, 3]) hA16 eA16 (by decide +kernel)) (any_subA (l' := []) rfl)) (y16_0_14) (((eF16 0 14).trans ey16_0_14)) (y16_0_15) (((eF16 0 15).trans ey16_0_15)) (u0_16) ((((show F16 0 16 = F 0 16 from (eF16 0 16).trans (hS16 0 16 rfl))).trans (eu0_16))) (u0_17) ((((show F16 0 17 = F 0 17 from (eF16 0 17).trans (hS16 0 17 rfl))).trans (eu0_17))) (u0_18) ((((show F16 0 18 = F 0 18 from (eF16 0 18).trans (hS16 0 18 rfl))).trans (eu0_18))) (show (0) = 0 ∨ (0) = 1 by omega) (show (0) = 1 → (u0_10) ≤ (y16_0_14) ∧ a1 + (y16_0_14) ≤ (u0_12) ∧ 1 ≤ (y16_0_15) ∧ (y16_0_15) ≤ a1 by omega) (show (u0_16) = -1 ∨ (u0_17) = 0 ∨ (u0_10) ≤ (u0_17) ∧ (u0_16) + (u0_17) ≤ (u0_12) ∧ 1 ≤ (u0_18) ∧ (u0_18) ≤ (u0_16) by omega) (show MT ((w2)) ((u0_12)) ((u0_11)) ((u0_10)) ((u0_9)) ((u0_13)) (a1) ((0) * (y16_0_14)) ((y16_0_15)) by assumption) (show IMP ((0 : Int) ≤ (u0_16)) (LGQ ((w2)) ((u0_12)) ((u0_11)) ((u0_10)) ((u0_16)) ((u0_17)) ((u0_18))) by assumption))
      · refine Ew_of (pc' := 82) (fun _ => x_iconst rfl) ?_
        refine Ew_of (pc' := 86) (fun _ => x_goto rfl rfl) ?_
        have : MT ((w2)) ((u0_12)) ((u0_11)) ((u0_10)) ((u0_9)) ((u0_13)) ((a1)) ((1) * (y16_0_14)) ((y16_0_15)) := by rcases (show (u0_9) = 2 ∨ 3 ≤ (u0_9) by omega) with w | w <;> first | exact MT_2 w hlg (by omega) | exact MT_3z w hlg (by omega) | exact MT_3e w hlg (by omega) (by omega)
        exact w_ireturn rfl (k (1) _ _ _ H O (SF_trans (SF_refl) (SF_glu (ι := [0, 1, 2, 3]) hS16 eF16 (by decide +kernel)) (any_sub (l' := [(0, 14), (0, 15)]) rfl)) (SA_trans (SA_refl) (SA_glu (ι := [0, 1, 2, 3]) hA16 eA16 (by decide +kernel)) (any_subA (l' := []) rfl)) (y16_0_14) (((eF16 0 14).trans ey16_0_14)) (y16_0_15) (((eF16 0 15).trans ey16_0_15)) (u0_16) ((((show F16 0 16 = F 0 16 from (eF16 0 16).trans (hS16 0 16 rfl))).trans (eu0_16))) (u0_17) ((((show F16 0 17 = F 0 17 from (eF16 0 17).trans (hS16 0 17 rfl))).trans (eu0_17))) (u0_18) ((((show F16 0 18 = F 0 18 from (eF16 0 18).trans (hS16 0 18 rfl))).trans (eu0_18))) (show (1) = 0 ∨ (1) = 1 by omega) (show (1) = 1 → (u0_10) ≤ (y16_0_14) ∧ a1 + (y16_0_14) ≤ (u0_12) ∧ 1 ≤ (y16_0_15) ∧ (y16_0_15) ≤ a1 by omega) (show (u0_16) = -1 ∨ (u0_17) = 0 ∨ (u0_10) ≤ (u0_17) ∧ (u0_16) + (u0_17) ≤ (u0_12) ∧ 1 ≤ (u0_18) ∧ (u0_18) ≤ (u0_16) by omega) (show MT ((w2)) ((u0_12)) ((u0_11)) ((u0_10)) ((u0_9)) ((u0_13)) (a1) ((1) * (y16_0_14)) ((y16_0_15)) by assumption) (show IMP ((0 : Int) ≤ (u0_16)) (LGQ ((w2)) ((u0_12)) ((u0_11)) ((u0_10)) ((u0_16)) ((u0_17)) ((u0_18))) by assumption))
    · refine Ew_of (pc' := 57) (fun _ => x_aload_n rfl rfl) ?_
      refine v_g H (o := 0) (v := I (u0_9)) rfl rfl rfl rfl rfl (congrArg (fun z : Int => I z) ((((show F16 0 9 = F 0 9 from (eF16 0 9).trans (hS16 0 9 rfl))).trans (eu0_9)) : F16 0 9 = u0_9)) ?_
      refine Ew_of (pc' := 61) (fun _ => x_iconst rfl) ?_
      refine w_icmpeq (t := 74) rfl rfl (show inr (u0_9) by omega) (show inr (2) by omega) (fun b21 => ?_) (fun b21 => ?_)
      · refine Ew_of (pc' := 75) (fun _ => x_aload_n rfl rfl) ?_
        refine v_g H (o := 0) (v := I (y16_0_14)) rfl rfl rfl rfl rfl (congrArg (fun z : Int => I z) (((eF16 0 14).trans ey16_0_14) : F16 0 14 = y16_0_14)) ?_
        refine w_ifle (t := 85) rfl rfl (show inr (y16_0_14) by omega) (fun b22 => ?_) (fun b22 => ?_)
        · refine Ew_of (pc' := 86) (fun _ => x_iconst rfl) ?_
          have : MT ((w2)) ((u0_12)) ((u0_11)) ((u0_10)) ((u0_9)) ((u0_13)) ((a1)) ((0) * (y16_0_14)) ((y16_0_15)) := by rcases (show (u0_9) = 2 ∨ 3 ≤ (u0_9) by omega) with w | w <;> first | exact MT_2 w hlg (by omega) | exact MT_3z w hlg (by omega) | exact MT_3e w hlg (by omega) (by omega)
          exact w_ireturn rfl (k (0) _ _ _ H O (SF_trans (SF_refl) (SF_glu (ι := [0, 1, 2, 3]) hS16 eF16 (by decide +kernel)) (any_sub (l' := [(0, 14), (0, 15)]) rfl)) (SA_trans (SA_refl) (SA_glu (ι := [0, 1, 2, 3]) hA16 eA16 (by decide +kernel)) (any_subA (l' := []) rfl)) (y16_0_14) (((eF16 0 14).trans ey16_0_14)) (y16_0_15) (((eF16 0 15).trans ey16_0_15)) (u0_16) ((((show F16 0 16 = F 0 16 from (eF16 0 16).trans (hS16 0 16 rfl))).trans (eu0_16))) (u0_17) ((((show F16 0 17 = F 0 17 from (eF16 0 17).trans (hS16 0 17 rfl))).trans (eu0_17))) (u0_18) ((((show F16 0 18 = F 0 18 from (eF16 0 18).trans (hS16 0 18 rfl))).trans (eu0_18))) (show (0) = 0 ∨ (0) = 1 by omega) (show (0) = 1 → (u0_10) ≤ (y16_0_14) ∧ a1 + (y16_0_14) ≤ (u0_12) ∧ 1 ≤ (y16_0_15) ∧ (y16_0_15) ≤ a1 by omega) (show (u0_16) = -1 ∨ (u0_17) = 0 ∨ (u0_10) ≤ (u0_17) ∧ (u0_16) + (u0_17) ≤ (u0_12) ∧ 1 ≤ (u0_18) ∧ (u0_18) ≤ (u0_16) by omega) (show MT ((w2)) ((u0_12)) ((u0_11)) ((u0_10)) ((u0_9)) ((u0_13)) (a1) ((0) * (y16_0_14)) ((y16_0_15)) by assumption) (show IMP ((0 : Int) ≤ (u0_16)) (LGQ ((w2)) ((u0_12)) ((u0_11)) ((u0_10)) ((u0_16)) ((u0_17)) ((u0_18))) by assumption))
        · refine Ew_of (pc' := 82) (fun _ => x_iconst rfl) ?_
          refine Ew_of (pc' := 86) (fun _ => x_goto rfl rfl) ?_
          have : MT ((w2)) ((u0_12)) ((u0_11)) ((u0_10)) ((u0_9)) ((u0_13)) ((a1)) ((1) * (y16_0_14)) ((y16_0_15)) := by rcases (show (u0_9) = 2 ∨ 3 ≤ (u0_9) by omega) with w | w <;> first | exact MT_2 w hlg (by omega) | exact MT_3z w hlg (by omega) | exact MT_3e w hlg (by omega) (by omega)
          exact w_ireturn rfl (k (1) _ _ _ H O (SF_trans (SF_refl) (SF_glu (ι := [0, 1, 2, 3]) hS16 eF16 (by decide +kernel)) (any_sub (l' := [(0, 14), (0, 15)]) rfl)) (SA_trans (SA_refl) (SA_glu (ι := [0, 1, 2, 3]) hA16 eA16 (by decide +kernel)) (any_subA (l' := []) rfl)) (y16_0_14) (((eF16 0 14).trans ey16_0_14)) (y16_0_15) (((eF16 0 15).trans ey16_0_15)) (u0_16) ((((show F16 0 16 = F 0 16 from (eF16 0 16).trans (hS16 0 16 rfl))).trans (eu0_16))) (u0_17) ((((show F16 0 17 = F 0 17 from (eF16 0 17).trans (hS16 0 17 rfl))).trans (eu0_17))) (u0_18) ((((show F16 0 18 = F 0 18 from (eF16 0 18).trans (hS16 0 18 rfl))).trans (eu0_18))) (show (1) = 0 ∨ (1) = 1 by omega) (show (1) = 1 → (u0_10) ≤ (y16_0_14) ∧ a1 + (y16_0_14) ≤ (u0_12) ∧ 1 ≤ (y16_0_15) ∧ (y16_0_15) ≤ a1 by omega) (show (u0_16) = -1 ∨ (u0_17) = 0 ∨ (u0_10) ≤ (u0_17) ∧ (u0_16) + (u0_17) ≤ (u0_12) ∧ 1 ≤ (u0_18) ∧ (u0_18) ≤ (u0_16) by omega) (show MT ((w2)) ((u0_12)) ((u0_11)) ((u0_10)) ((u0_9)) ((u0_13)) (a1) ((1) * (y16_0_14)) ((y16_0_15)) by assumption) (show IMP ((0 : Int) ≤ (u0_16)) (LGQ ((w2)) ((u0_12)) ((u0_11)) ((u0_10)) ((u0_16)) ((u0_17)) ((u0_18))) by assumption))
      · refine Ew_of (pc' := 65) (fun _ => x_iload_n rfl rfl) ?_
        refine Ew_of (pc' := 66) (fun _ => x_iconst rfl) ?_
        refine w_iadd rfl ?_
        refine Ew_of (pc' := 68) (fun _ => x_aload_n rfl rfl) ?_
        refine v_g H (o := 0) (v := I (u0_13)) rfl rfl rfl rfl rfl (congrArg (fun z : Int => I z) ((((show F16 0 13 = F 0 13 from (eF16 0 13).trans (hS16 0 13 rfl))).trans (eu0_13)) : F16 0 13 = u0_13)) ?_
        refine w_icmple (t := 87) rfl rfl (show inr ((a1 + 1)) by omega) (show inr (u0_13) by omega) (fun b23 => ?_) (fun b23 => ?_)
        · refine Ew_of (pc' := 88) (fun _ => x_aload_n rfl rfl) ?_
          refine v_g H (o := 0) (v := I (y16_0_14)) rfl rfl rfl rfl rfl (congrArg (fun z : Int => I z) (((eF16 0 14).trans ey16_0_14) : F16 0 14 = y16_0_14)) ?_
          refine Ew_of (pc' := 92) (fun _ => x_istore_n rfl) ?_
          refine Ew_of (pc' := 93) (fun _ => x_aload_n rfl (rk_o (rfl) rfl rfl)) ?_
          refine v_g H (o := 0) (v := I (y16_0_15)) rfl rfl rfl rfl rfl (congrArg (fun z : Int => I z) (((eF16 0 15).trans ey16_0_15) : F16 0 15 = y16_0_15)) ?_
          refine Ew_of (pc' := 97) (fun _ => x_istore_n rfl) ?_
          refine Ew_of (pc' := 98) (fun _ => x_aload_n rfl (rk_o (rk_o (rfl) rfl rfl) rfl rfl)) ?_
          refine Ew_of (pc' := 99) (fun _ => x_iload_n rfl (rk_o (rk_o (rfl) rfl rfl) rfl rfl)) ?_
          refine Ew_of (pc' := 100) (fun _ => x_iconst rfl) ?_
          refine w_iadd rfl ?_
          refine v_inv H (o := 0) rfl rfl rfl rfl rfl rfl (by rfl) (C130 (D := pul [0, 1, 2, 3] D) (N := pul [0, 1, 2, 3] N) (HW_sub H (VS_of (show vsub V127 V130 [0, 1, 2, 3] = true by decide +kernel))) ((((show F16 0 0 = F 0 0 from (eF16 0 0).trans (hS16 0 0 rfl)))).trans (pf1)) ((((show F16 1 0 = F 1 0 from (eF16 1 0).trans (hS16 1 0 rfl)))).trans (pf2)) ((((show F16 0 8 = F 0 8 from (eF16 0 8).trans (hS16 0 8 rfl)))).trans (pf3)) (n2) (en2) (n3) (en3) (u0_6) ((((show F16 0 6 = F 0 6 from (eF16 0 6).trans (hS16 0 6 rfl))).trans (eu0_6))) (u0_10) ((((show F16 0 10 = F 0 10 from (eF16 0 10).trans (hS16 0 10 rfl))).trans (eu0_10))) (u0_11) ((((show F16 0 11 = F 0 11 from (eF16 0 11).trans (hS16 0 11 rfl))).trans (eu0_11))) (u0_12) ((((show F16 0 12 = F 0 12 from (eF16 0 12).trans (hS16 0 12 rfl))).trans (eu0_12))) (y16_0_14) (((eF16 0 14).trans ey16_0_14)) (y16_0_15) (((eF16 0 15).trans ey16_0_15)) (u0_16) ((((show F16 0 16 = F 0 16 from (eF16 0 16).trans (hS16 0 16 rfl))).trans (eu0_16))) (u0_17) ((((show F16 0 17 = F 0 17 from (eF16 0 17).trans (hS16 0 17 rfl))).trans (eu0_17))) (u0_18) ((((show F16 0 18 = F 0 18 from (eF16 0 18).trans (hS16 0 18 rfl))).trans (eu0_18))) (u1_1) ((((show F16 1 1 = F 1 1 from (eF16 1 1).trans (hS16 1 1 rfl))).trans (eu1_1))) (w2) (((show A16 2 = A 2 from (eA16 2).trans (funext (hA16 2 rfl)))).trans (ew2)) (w3) (((show A16 3 = A 3 from (eA16 3).trans (funext (hA16 3 rfl)))).trans (ew3)) (show inr ((a1 + 1)) by omega) (show 0 ≤ (u1_1) ∧ (u1_1) ≤ (n2) ∧ (n2) ≤ 65536 ∧ (u1_1) ≤ 16384 by omega) (show (u0_12) ≤ (u1_1) by omega) (show 1 ≤ (u0_10) ∧ (u0_10) ≤ 8 by omega) (show 0 ≤ ((a1 + 1)) ∧ ((a1 + 1)) < (u0_6) by omega) (show (u0_6) ≤ (n3) ∧ (n3) ≤ 16384 by omega) (show BKI ((w2)) ((w3)) ((u0_10)) ((u0_6)) by assumption) (show (u0_16) = -1 ∨ (u0_17) = 0 ∨ (u0_10) ≤ (u0_17) ∧ (u0_16) + (u0_17) ≤ (u0_12) ∧ 1 ≤ (u0_18) ∧ (u0_18) ≤ (u0_16) by omega) (show IMP ((0 : Int) ≤ (u0_16)) (LGQ ((w2)) ((u0_12)) ((u0_11)) ((u0_10)) ((u0_16)) ((u0_17)) ((u0_18))) by assumption) (fun σ24 F24' A24' H' O' hS24 hA24 y24_0_14 ey24_0_14 y24_0_15 ey24_0_15 pz24_0 pz24_1 => ⟨rfl, ?_⟩))
          refine v_back (c := c) (s := s) H (show vsub V127 V130 [0, 1, 2, 3] = true by decide +kernel) H' O' (fun F24 A24 H O' eF24 eA24 => ?_)
          have O := OUT_trans O O'
          -- Finder.longest
          have r25 : (-2147483648 : Int) ≤ y24_0_14 ∧ y24_0_14 ≤ 2147483647 := by have h1 : (-2147483648 : Int) ≤ F24 0 14 ∧ F24 0 14 ≤ 2147483647 := H.krg 0 14 (by decide); rw [show F24 0 14 = y24_0_14 from ((eF24 0 14).trans ey24_0_14)] at h1; exact h1
          have r26 : (-2147483648 : Int) ≤ y24_0_15 ∧ y24_0_15 ≤ 2147483647 := by have h1 : (-2147483648 : Int) ≤ F24 0 15 ∧ F24 0 15 ≤ 2147483647 := H.krg 0 15 (by decide); rw [show F24 0 15 = y24_0_15 from ((eF24 0 15).trans ey24_0_15)] at h1; exact h1
          have hl1 : LGQ ((w2)) ((u0_12)) ((u0_11)) ((u0_10)) ((a1) + 1) ((y24_0_14)) ((y24_0_15)) := pz24_1
          refine Ew_of (pc' := 105) (fun _ => x_aload_n rfl (rk_o (rk_o (rfl) rfl rfl) rfl rfl)) ?_
          refine Ew_of (pc' := 106) (fun _ => x_iload_n rfl (rk_o (rk_o (rfl) rfl rfl) rfl rfl)) ?_
          refine Ew_of (pc' := 107) (fun _ => x_iconst rfl) ?_
          refine w_iadd rfl ?_
          refine v_p H (o := 0) (z := (a1 + 1)) (v := I ((a1 + 1))) rfl rfl rfl rfl rfl rfl rfl rfl (show (-2147483648 : Int) ≤ (a1 + 1) ∧ (a1 + 1) ≤ 2147483647 by omega) (fun σ H O' => ?_)
          have O := OUT_trans O O'
          refine Ew_of (pc' := 112) (fun _ => x_aload_n rfl (rk_o (rk_o (rfl) rfl rfl) rfl rfl)) ?_
          refine Ew_of (pc' := 113) (fun _ => x_aload_n rfl (rk_o (rk_o (rfl) rfl rfl) rfl rfl)) ?_
          refine v_g H (o := 0) (v := I (y24_0_14)) rfl rfl rfl rfl rfl (congrArg (fun z : Int => I z) (((eF24 0 14).trans ey24_0_14) : (updF F24 0 16 ((a1 + 1))) 0 14 = y24_0_14)) ?_
          refine v_p H (o := 0) (z := y24_0_14) (v := I (y24_0_14)) rfl rfl rfl rfl rfl rfl rfl rfl (show (-2147483648 : Int) ≤ y24_0_14 ∧ y24_0_14 ≤ 2147483647 by omega) (fun σ H O' => ?_)
          have O := OUT_trans O O'
          refine Ew_of (pc' := 120) (fun _ => x_aload_n rfl (rk_o (rk_o (rfl) rfl rfl) rfl rfl)) ?_
          refine Ew_of (pc' := 121) (fun _ => x_aload_n rfl (rk_o (rk_o (rfl) rfl rfl) rfl rfl)) ?_
          refine v_g H (o := 0) (v := I (y24_0_15)) rfl rfl rfl rfl rfl (congrArg (fun z : Int => I z) (((eF24 0 15).trans ey24_0_15) : (updF (updF F24 0 16 ((a1 + 1))) 0 17 (y24_0_14)) 0 15 = y24_0_15)) ?_
          refine v_p H (o := 0) (z := y24_0_15) (v := I (y24_0_15)) rfl rfl rfl rfl rfl rfl rfl rfl (show (-2147483648 : Int) ≤ y24_0_15 ∧ y24_0_15 ≤ 2147483647 by omega) (fun σ H O' => ?_)
          have O := OUT_trans O O'
          refine Ew_of (pc' := 128) (fun _ => x_aload_n rfl (rk_o (rk_o (rfl) rfl rfl) rfl rfl)) ?_
          refine Ew_of (pc' := 129) (fun _ => x_iload_n rfl (rk_o (rk_s) rfl rfl)) ?_
          refine v_p H (o := 0) (z := y16_0_14) (v := I (y16_0_14)) rfl rfl rfl rfl rfl rfl rfl rfl (show (-2147483648 : Int) ≤ y16_0_14 ∧ y16_0_14 ≤ 2147483647 by omega) (fun σ H O' => ?_)
          have O := OUT_trans O O'
          refine Ew_of (pc' := 133) (fun _ => x_aload_n rfl (rk_o (rk_o (rfl) rfl rfl) rfl rfl)) ?_
          refine Ew_of (pc' := 134) (fun _ => x_iload_n rfl rk_s) ?_
          refine v_p H (o := 0) (z := y16_0_15) (v := I (y16_0_15)) rfl rfl rfl rfl rfl rfl rfl rfl (show (-2147483648 : Int) ≤ y16_0_15 ∧ y16_0_15 ≤ 2147483647 by omega) (fun σ H O' => ?_)
          have O := OUT_trans O O'
          refine Ew_of (pc' := 138) (fun _ => x_aload_n rfl (rk_o (rk_o (rfl) rfl rfl) rfl rfl)) ?_
          refine v_g H (o := 0) (v := I (y24_0_14)) rfl rfl rfl rfl rfl (congrArg (fun z : Int => I z) (rfl : (updF (updF (updF (updF (updF F24 0 16 ((a1 + 1))) 0 17 (y24_0_14)) 0 18 (y24_0_15)) 0 14 (y16_0_14)) 0 15 (y16_0_15)) 0 17 = y24_0_14)) ?_
          refine Ew_of (pc' := 142) (fun _ => x_iload_n rfl (rk_o (rk_s) rfl rfl)) ?_
          refine w_icmpgt (t := 149) rfl rfl (show inr (y24_0_14) by omega) (show inr (y16_0_14) by omega) (fun b27 => ?_) (fun b27 => ?_)
          · refine Ew_of (pc' := 150) (fun _ => x_iconst rfl) ?_
            have : IMP ((0 : Int) ≤ ((a1 + 1))) (LGQ ((w2)) ((u0_12)) ((u0_11)) ((u0_10)) (((a1 + 1))) ((y24_0_14)) ((y24_0_15))) := fun _ => hl1
            have : MT ((w2)) ((u0_12)) ((u0_11)) ((u0_10)) ((u0_9)) ((u0_13)) ((a1)) ((0) * (y16_0_14)) ((y16_0_15)) := by first | exact MT_3y (by omega) hlg (by omega) (by omega) hl1 (by omega) | exact MT_3n (by omega) hlg (by omega) (by omega) hl1 (by omega)
            exact w_ireturn rfl (k (0) _ _ _ H O (SF_upd (SF_upd (SF_upd (SF_upd (SF_upd (SF_trans (SF_trans (SF_refl) (SF_glu (ι := [0, 1, 2, 3]) hS16 eF16 (by decide +kernel)) (any_sub (l' := [(0, 14), (0, 15)]) rfl)) (SF_glu (ι := [0, 1, 2, 3]) hS24 eF24 (by decide +kernel)) (any_sub (l' := [(0, 14), (0, 15)]) rfl)) rfl) rfl) rfl) rfl) rfl) (SA_trans (SA_trans (SA_refl) (SA_glu (ι := [0, 1, 2, 3]) hA16 eA16 (by decide +kernel)) (any_subA (l' := []) rfl)) (SA_glu (ι := [0, 1, 2, 3]) hA24 eA24 (by decide +kernel)) (any_subA (l' := []) rfl)) (y16_0_14) (rfl) (y16_0_15) (rfl) ((a1 + 1)) (rfl) (y24_0_14) (rfl) (y24_0_15) (rfl) (show (0) = 0 ∨ (0) = 1 by omega) (show (0) = 1 → (u0_10) ≤ (y16_0_14) ∧ a1 + (y16_0_14) ≤ (u0_12) ∧ 1 ≤ (y16_0_15) ∧ (y16_0_15) ≤ a1 by omega) (show ((a1 + 1)) = -1 ∨ (y24_0_14) = 0 ∨ (u0_10) ≤ (y24_0_14) ∧ ((a1 + 1)) + (y24_0_14) ≤ (u0_12) ∧ 1 ≤ (y24_0_15) ∧ (y24_0_15) ≤ ((a1 + 1)) by omega) (show MT ((w2)) ((u0_12)) ((u0_11)) ((u0_10)) ((u0_9)) ((u0_13)) (a1) ((0) * (y16_0_14)) ((y16_0_15)) by assumption) (show IMP ((0 : Int) ≤ ((a1 + 1))) (LGQ ((w2)) ((u0_12)) ((u0_11)) ((u0_10)) (((a1 + 1))) ((y24_0_14)) ((y24_0_15))) by assumption))
          · refine Ew_of (pc' := 146) (fun _ => x_iconst rfl) ?_
            refine Ew_of (pc' := 150) (fun _ => x_goto rfl rfl) ?_
            have : IMP ((0 : Int) ≤ ((a1 + 1))) (LGQ ((w2)) ((u0_12)) ((u0_11)) ((u0_10)) (((a1 + 1))) ((y24_0_14)) ((y24_0_15))) := fun _ => hl1
            have : MT ((w2)) ((u0_12)) ((u0_11)) ((u0_10)) ((u0_9)) ((u0_13)) ((a1)) ((1) * (y16_0_14)) ((y16_0_15)) := by first | exact MT_3y (by omega) hlg (by omega) (by omega) hl1 (by omega) | exact MT_3n (by omega) hlg (by omega) (by omega) hl1 (by omega)
            exact w_ireturn rfl (k (1) _ _ _ H O (SF_upd (SF_upd (SF_upd (SF_upd (SF_upd (SF_trans (SF_trans (SF_refl) (SF_glu (ι := [0, 1, 2, 3]) hS16 eF16 (by decide +kernel)) (any_sub (l' := [(0, 14), (0, 15)]) rfl)) (SF_glu (ι := [0, 1, 2, 3]) hS24 eF24 (by decide +kernel)) (any_sub (l' := [(0, 14), (0, 15)]) rfl)) rfl) rfl) rfl) rfl) rfl) (SA_trans (SA_trans (SA_refl) (SA_glu (ι := [0, 1, 2, 3]) hA16 eA16 (by decide +kernel)) (any_subA (l' := []) rfl)) (SA_glu (ι := [0, 1, 2, 3]) hA24 eA24 (by decide +kernel)) (any_subA (l' := []) rfl)) (y16_0_14) (rfl) (y16_0_15) (rfl) ((a1 + 1)) (rfl) (y24_0_14) (rfl) (y24_0_15) (rfl) (show (1) = 0 ∨ (1) = 1 by omega) (show (1) = 1 → (u0_10) ≤ (y16_0_14) ∧ a1 + (y16_0_14) ≤ (u0_12) ∧ 1 ≤ (y16_0_15) ∧ (y16_0_15) ≤ a1 by omega) (show ((a1 + 1)) = -1 ∨ (y24_0_14) = 0 ∨ (u0_10) ≤ (y24_0_14) ∧ ((a1 + 1)) + (y24_0_14) ≤ (u0_12) ∧ 1 ≤ (y24_0_15) ∧ (y24_0_15) ≤ ((a1 + 1)) by omega) (show MT ((w2)) ((u0_12)) ((u0_11)) ((u0_10)) ((u0_9)) ((u0_13)) (a1) ((1) * (y16_0_14)) ((y16_0_15)) by assumption) (show IMP ((0 : Int) ≤ ((a1 + 1))) (LGQ ((w2)) ((u0_12)) ((u0_11)) ((u0_10)) (((a1 + 1))) ((y24_0_14)) ((y24_0_15))) by assumption))
        · refine Ew_of (pc' := 75) (fun _ => x_aload_n rfl rfl) ?_
          refine v_g H (o := 0) (v := I (y16_0_14)) rfl rfl rfl rfl rfl (congrArg (fun z : Int => I z) (((eF16 0 14).trans ey16_0_14) : F16 0 14 = y16_0_14)) ?_
          refine w_ifle (t := 85) rfl rfl (show inr (y16_0_14) by omega) (fun b28 => ?_) (fun b28 => ?_)
          · refine Ew_of (pc' := 86) (fun _ => x_iconst rfl) ?_
            have : MT ((w2)) ((u0_12)) ((u0_11)) ((u0_10)) ((u0_9)) ((u0_13)) ((a1)) ((0) * (y16_0_14)) ((y16_0_15)) := by rcases (show (u0_9) = 2 ∨ 3 ≤ (u0_9) by omega) with w | w <;> first | exact MT_2 w hlg (by omega) | exact MT_3z w hlg (by omega) | exact MT_3e w hlg (by omega) (by omega)
            exact w_ireturn rfl (k (0) _ _ _ H O (SF_trans (SF_refl) (SF_glu (ι := [0, 1, 2, 3]) hS16 eF16 (by decide +kernel)) (any_sub (l' := [(0, 14), (0, 15)]) rfl)) (SA_trans (SA_refl) (SA_glu (ι := [0, 1, 2, 3]) hA16 eA16 (by decide +kernel)) (any_subA (l' := []) rfl)) (y16_0_14) (((eF16 0 14).trans ey16_0_14)) (y16_0_15) (((eF16 0 15).trans ey16_0_15)) (u0_16) ((((show F16 0 16 = F 0 16 from (eF16 0 16).trans (hS16 0 16 rfl))).trans (eu0_16))) (u0_17) ((((show F16 0 17 = F 0 17 from (eF16 0 17).trans (hS16 0 17 rfl))).trans (eu0_17))) (u0_18) ((((show F16 0 18 = F 0 18 from (eF16 0 18).trans (hS16 0 18 rfl))).trans (eu0_18))) (show (0) = 0 ∨ (0) = 1 by omega) (show (0) = 1 → (u0_10) ≤ (y16_0_14) ∧ a1 + (y16_0_14) ≤ (u0_12) ∧ 1 ≤ (y16_0_15) ∧ (y16_0_15) ≤ a1 by omega) (show (u0_16) = -1 ∨ (u0_17) = 0 ∨ (u0_10) ≤ (u0_17) ∧ (u0_16) + (u0_17) ≤ (u0_12) ∧ 1 ≤ (u0_18) ∧ (u0_18) ≤ (u0_16) by omega) (show MT ((w2)) ((u0_12)) ((u0_11)) ((u0_10)) ((u0_9)) ((u0_13)) (a1) ((0) * (y16_0_14)) ((y16_0_15)) by assumption) (show IMP ((0 : Int) ≤ (u0_16)) (LGQ ((w2)) ((u0_12)) ((u0_11)) ((u0_10)) ((u0_16)) ((u0_17)) ((u0_18))) by assumption))
          · refine Ew_of (pc' := 82) (fun _ => x_iconst rfl) ?_
            refine Ew_of (pc' := 86) (fun _ => x_goto rfl rfl) ?_
            have : MT ((w2)) ((u0_12)) ((u0_11)) ((u0_10)) ((u0_9)) ((u0_13)) ((a1)) ((1) * (y16_0_14)) ((y16_0_15)) := by rcases (show (u0_9) = 2 ∨ 3 ≤ (u0_9) by omega) with w | w <;> first | exact MT_2 w hlg (by omega) | exact MT_3z w hlg (by omega) | exact MT_3e w hlg (by omega) (by omega)
            exact w_ireturn rfl (k (1) _ _ _ H O (SF_trans (SF_refl) (SF_glu (ι := [0, 1, 2, 3]) hS16 eF16 (by decide +kernel)) (any_sub (l' := [(0, 14), (0, 15)]) rfl)) (SA_trans (SA_refl) (SA_glu (ι := [0, 1, 2, 3]) hA16 eA16 (by decide +kernel)) (any_subA (l' := []) rfl)) (y16_0_14) (((eF16 0 14).trans ey16_0_14)) (y16_0_15) (((eF16 0 15).trans ey16_0_15)) (u0_16) ((((show F16 0 16 = F 0 16 from (eF16 0 16).trans (hS16 0 16 rfl))).trans (eu0_16))) (u0_17) ((((show F16 0 17 = F 0 17 from (eF16 0 17).trans (hS16 0 17 rfl))).trans (eu0_17))) (u0_18) ((((show F16 0 18 = F 0 18 from (eF16 0 18).trans (hS16 0 18 rfl))).trans (eu0_18))) (show (1) = 0 ∨ (1) = 1 by omega) (show (1) = 1 → (u0_10) ≤ (y16_0_14) ∧ a1 + (y16_0_14) ≤ (u0_12) ∧ 1 ≤ (y16_0_15) ∧ (y16_0_15) ≤ a1 by omega) (show (u0_16) = -1 ∨ (u0_17) = 0 ∨ (u0_10) ≤ (u0_17) ∧ (u0_16) + (u0_17) ≤ (u0_12) ∧ 1 ≤ (u0_18) ∧ (u0_18) ≤ (u0_16) by omega) (show MT ((w2)) ((u0_12)) ((u0_11)) ((u0_10)) ((u0_9)) ((u0_13)) (a1) ((1) * (y16_0_14)) ((y16_0_15)) by assumption) (show IMP ((0 : Int) ≤ (u0_16)) (LGQ ((w2)) ((u0_12)) ((u0_11)) ((u0_10)) ((u0_16)) ((u0_17)) ((u0_18))) by assumption))
  · refine Ew_of (pc' := 9) (fun _ => x_aload_n rfl rfl) ?_
    refine v_g H (o := 0) (v := I (u0_9)) rfl rfl rfl rfl rfl (congrArg (fun z : Int => I z) ((eu0_9) : F 0 9 = u0_9)) ?_
    refine Ew_of (pc' := 13) (fun _ => x_iconst rfl) ?_
    refine w_icmpne (t := 26) rfl rfl (show inr (u0_9) by omega) (show inr (1) by omega) (fun b29 => ?_) (fun b29 => ?_)
    · refine Ew_of (pc' := 27) (fun _ => x_aload_n rfl rfl) ?_
      refine Ew_of (pc' := 28) (fun _ => x_iload_n rfl rfl) ?_
      refine Ew_of (pc' := 29) (fun _ => x_aload_n rfl rfl) ?_
      refine v_g H (o := 0) (v := I (u0_10)) rfl rfl rfl rfl rfl (congrArg (fun z : Int => I z) ((eu0_10) : F 0 10 = u0_10)) ?_
      refine v_inv H (o := 0) rfl rfl rfl rfl rfl rfl (by rfl) (C129 (D := pul [0, 1, 2, 3] D) (N := pul [0, 1, 2, 3] N) (HW_sub H (VS_of (show vsub V127 V129 [0, 1, 2, 3] = true by decide +kernel))) (pf1) (pf2) (pf3) (n2) (en2) (n3) (en3) (u0_6) ((eu0_6)) (u0_10) ((eu0_10)) (u0_11) ((eu0_11)) (u0_12) ((eu0_12)) (u0_14) ((eu0_14)) (u0_15) ((eu0_15)) (u1_1) ((eu1_1)) (w2) (ew2) (w3) (ew3) (show inr (a1) by omega) (show inr (u0_10) by omega) (show 0 ≤ (u1_1) ∧ (u1_1) ≤ (n2) ∧ (n2) ≤ 65536 ∧ (u1_1) ≤ 16384 by omega) (show (u0_12) ≤ (u1_1) by omega) (show 1 ≤ (u0_10) ∧ (u0_10) ≤ 8 by omega) (show 0 ≤ (a1) ∧ (a1) < (u0_6) by omega) (show (u0_6) ≤ (n3) ∧ (n3) ≤ 16384 by omega) (show BKI ((w2)) ((w3)) ((u0_10)) ((u0_6)) by assumption) (show 1 ≤ (u0_10) ∧ (u0_10) ≤ (u0_10) by omega) (fun z30 σ30 F30' A30' H' O' hS30 hA30 y30_0_14 ey30_0_14 y30_0_15 ey30_0_15 pz30_0 pz30_1 pz30_2 => ⟨rretB rfl pz30_0, ?_⟩))
      refine v_back (c := c) (s := s) H (show vsub V127 V129 [0, 1, 2, 3] = true by decide +kernel) H' O' (fun F30 A30 H O' eF30 eA30 => ?_)
      have O := OUT_trans O O'
      -- Finder.nearest
      have r31 : (-2147483648 : Int) ≤ y30_0_14 ∧ y30_0_14 ≤ 2147483647 := by have h1 : (-2147483648 : Int) ≤ F30 0 14 ∧ F30 0 14 ≤ 2147483647 := H.krg 0 14 (by decide); rw [show F30 0 14 = y30_0_14 from ((eF30 0 14).trans ey30_0_14)] at h1; exact h1
      have r32 : (-2147483648 : Int) ≤ y30_0_15 ∧ y30_0_15 ≤ 2147483647 := by have h1 : (-2147483648 : Int) ≤ F30 0 15 ∧ F30 0 15 ≤ 2147483647 := H.krg 0 15 (by decide); rw [show F30 0 15 = y30_0_15 from ((eF30 0 15).trans ey30_0_15)] at h1; exact h1
      have hnl : ∀ r, (z30) = r → NRQ ((w2)) ((u0_12)) ((u0_11)) ((u0_10)) ((a1)) (r * (y30_0_14)) ((y30_0_15)) := fun r e => e ▸ pz30_2
      refine w_ifeq (t := 42) rfl rfl (show inr (z30) by omega) (fun b33 => ?_) (fun b33 => ?_)
      · refine Ew_of (pc' := 43) (fun _ => x_iconst rfl) ?_
        have : MT ((w2)) ((u0_12)) ((u0_11)) ((u0_10)) ((u0_9)) ((u0_13)) ((a1)) ((0) * (y30_0_14)) ((y30_0_15)) := by first | exact MT_8y (by omega) (hn8 1 (by omega)) rfl (by omega) | exact MT_8n (by omega) (hn8 0 (by omega)) rfl (hnl ((0)) (by omega)) | exact MT_n (by omega) (hnl ((0)) (by omega))
        exact w_ireturn rfl (k (0) _ _ _ H O (SF_trans (SF_refl) (SF_glu (ι := [0, 1, 2, 3]) hS30 eF30 (by decide +kernel)) (any_sub (l' := [(0, 14), (0, 15)]) rfl)) (SA_trans (SA_refl) (SA_glu (ι := [0, 1, 2, 3]) hA30 eA30 (by decide +kernel)) (any_subA (l' := []) rfl)) (y30_0_14) (((eF30 0 14).trans ey30_0_14)) (y30_0_15) (((eF30 0 15).trans ey30_0_15)) (u0_16) ((((show F30 0 16 = F 0 16 from (eF30 0 16).trans (hS30 0 16 rfl))).trans (eu0_16))) (u0_17) ((((show F30 0 17 = F 0 17 from (eF30 0 17).trans (hS30 0 17 rfl))).trans (eu0_17))) (u0_18) ((((show F30 0 18 = F 0 18 from (eF30 0 18).trans (hS30 0 18 rfl))).trans (eu0_18))) (show (0) = 0 ∨ (0) = 1 by omega) (show (0) = 1 → (u0_10) ≤ (y30_0_14) ∧ a1 + (y30_0_14) ≤ (u0_12) ∧ 1 ≤ (y30_0_15) ∧ (y30_0_15) ≤ a1 by omega) (show (u0_16) = -1 ∨ (u0_17) = 0 ∨ (u0_10) ≤ (u0_17) ∧ (u0_16) + (u0_17) ≤ (u0_12) ∧ 1 ≤ (u0_18) ∧ (u0_18) ≤ (u0_16) by omega) (show MT ((w2)) ((u0_12)) ((u0_11)) ((u0_10)) ((u0_9)) ((u0_13)) (a1) ((0) * (y30_0_14)) ((y30_0_15)) by assumption) (show IMP ((0 : Int) ≤ (u0_16)) (LGQ ((w2)) ((u0_12)) ((u0_11)) ((u0_10)) ((u0_16)) ((u0_17)) ((u0_18))) by assumption))
      · refine Ew_of (pc' := 39) (fun _ => x_iconst rfl) ?_
        refine Ew_of (pc' := 43) (fun _ => x_goto rfl rfl) ?_
        have : MT ((w2)) ((u0_12)) ((u0_11)) ((u0_10)) ((u0_9)) ((u0_13)) ((a1)) ((1) * (y30_0_14)) ((y30_0_15)) := by first | exact MT_8y (by omega) (hn8 1 (by omega)) rfl (by omega) | exact MT_8n (by omega) (hn8 0 (by omega)) rfl (hnl ((1)) (by omega)) | exact MT_n (by omega) (hnl ((1)) (by omega))
        exact w_ireturn rfl (k (1) _ _ _ H O (SF_trans (SF_refl) (SF_glu (ι := [0, 1, 2, 3]) hS30 eF30 (by decide +kernel)) (any_sub (l' := [(0, 14), (0, 15)]) rfl)) (SA_trans (SA_refl) (SA_glu (ι := [0, 1, 2, 3]) hA30 eA30 (by decide +kernel)) (any_subA (l' := []) rfl)) (y30_0_14) (((eF30 0 14).trans ey30_0_14)) (y30_0_15) (((eF30 0 15).trans ey30_0_15)) (u0_16) ((((show F30 0 16 = F 0 16 from (eF30 0 16).trans (hS30 0 16 rfl))).trans (eu0_16))) (u0_17) ((((show F30 0 17 = F 0 17 from (eF30 0 17).trans (hS30 0 17 rfl))).trans (eu0_17))) (u0_18) ((((show F30 0 18 = F 0 18 from (eF30 0 18).trans (hS30 0 18 rfl))).trans (eu0_18))) (show (1) = 0 ∨ (1) = 1 by omega) (show (1) = 1 → (u0_10) ≤ (y30_0_14) ∧ a1 + (y30_0_14) ≤ (u0_12) ∧ 1 ≤ (y30_0_15) ∧ (y30_0_15) ≤ a1 by omega) (show (u0_16) = -1 ∨ (u0_17) = 0 ∨ (u0_10) ≤ (u0_17) ∧ (u0_16) + (u0_17) ≤ (u0_12) ∧ 1 ≤ (u0_18) ∧ (u0_18) ≤ (u0_16) by omega) (show MT ((w2)) ((u0_12)) ((u0_11)) ((u0_10)) ((u0_9)) ((u0_13)) (a1) ((1) * (y30_0_14)) ((y30_0_15)) by assumption) (show IMP ((0 : Int) ≤ (u0_16)) (LGQ ((w2)) ((u0_12)) ((u0_11)) ((u0_10)) ((u0_16)) ((u0_17)) ((u0_18))) by assumption))
    · refine Ew_of (pc' := 17) (fun _ => x_aload_n rfl rfl) ?_
      refine Ew_of (pc' := 18) (fun _ => x_iload_n rfl rfl) ?_
      refine Ew_of (pc' := 20) (fun _ => x_bipush (z := 8) rfl (by decide)) ?_
      refine v_inv H (o := 0) rfl rfl rfl rfl rfl rfl (by rfl) (C129 (D := pul [0, 1, 2, 3] D) (N := pul [0, 1, 2, 3] N) (HW_sub H (VS_of (show vsub V127 V129 [0, 1, 2, 3] = true by decide +kernel))) (pf1) (pf2) (pf3) (n2) (en2) (n3) (en3) (u0_6) ((eu0_6)) (u0_10) ((eu0_10)) (u0_11) ((eu0_11)) (u0_12) ((eu0_12)) (u0_14) ((eu0_14)) (u0_15) ((eu0_15)) (u1_1) ((eu1_1)) (w2) (ew2) (w3) (ew3) (show inr (a1) by omega) (show inr (8) by omega) (show 0 ≤ (u1_1) ∧ (u1_1) ≤ (n2) ∧ (n2) ≤ 65536 ∧ (u1_1) ≤ 16384 by omega) (show (u0_12) ≤ (u1_1) by omega) (show 1 ≤ (u0_10) ∧ (u0_10) ≤ 8 by omega) (show 0 ≤ (a1) ∧ (a1) < (u0_6) by omega) (show (u0_6) ≤ (n3) ∧ (n3) ≤ 16384 by omega) (show BKI ((w2)) ((w3)) ((u0_10)) ((u0_6)) by assumption) (show 1 ≤ (8) ∧ (u0_10) ≤ (8) by omega) (fun z34 σ34 F34' A34' H' O' hS34 hA34 y34_0_14 ey34_0_14 y34_0_15 ey34_0_15 pz34_0 pz34_1 pz34_2 => ⟨rretB rfl pz34_0, ?_⟩))
      refine v_back (c := c) (s := s) H (show vsub V127 V129 [0, 1, 2, 3] = true by decide +kernel) H' O' (fun F34 A34 H O' eF34 eA34 => ?_)
      have O := OUT_trans O O'
      -- Finder.nearest
      have r35 : (-2147483648 : Int) ≤ y34_0_14 ∧ y34_0_14 ≤ 2147483647 := by have h1 : (-2147483648 : Int) ≤ F34 0 14 ∧ F34 0 14 ≤ 2147483647 := H.krg 0 14 (by decide); rw [show F34 0 14 = y34_0_14 from ((eF34 0 14).trans ey34_0_14)] at h1; exact h1
      have r36 : (-2147483648 : Int) ≤ y34_0_15 ∧ y34_0_15 ≤ 2147483647 := by have h1 : (-2147483648 : Int) ≤ F34 0 15 ∧ F34 0 15 ≤ 2147483647 := H.krg 0 15 (by decide); rw [show F34 0 15 = y34_0_15 from ((eF34 0 15).trans ey34_0_15)] at h1; exact h1
      have hn8 : ∀ r, (z34) = r → NRQ ((w2)) ((u0_12)) ((u0_11)) (8) ((a1)) (r * (y34_0_14)) ((y34_0_15)) := fun r e => e ▸ pz34_2
      refine w_ifne (t := 38) rfl rfl (show inr (z34) by omega) (fun b37 => ?_) (fun b37 => ?_)
      · refine Ew_of (pc' := 39) (fun _ => x_iconst rfl) ?_
        refine Ew_of (pc' := 43) (fun _ => x_goto rfl rfl) ?_
        have : MT ((w2)) ((u0_12)) ((u0_11)) ((u0_10)) ((u0_9)) ((u0_13)) ((a1)) ((1) * (y34_0_14)) ((y34_0_15)) := by first | exact MT_8y (by omega) (hn8 1 (by omega)) rfl (by omega) | exact MT_8n (by omega) (hn8 0 (by omega)) rfl (hnl ((1)) (by omega)) | exact MT_n (by omega) (hnl ((1)) (by omega))
        exact w_ireturn rfl (k (1) _ _ _ H O (SF_trans (SF_refl) (SF_glu (ι := [0, 1, 2, 3]) hS34 eF34 (by decide +kernel)) (any_sub (l' := [(0, 14), (0, 15)]) rfl)) (SA_trans (SA_refl) (SA_glu (ι := [0, 1, 2, 3]) hA34 eA34 (by decide +kernel)) (any_subA (l' := []) rfl)) (y34_0_14) (((eF34 0 14).trans ey34_0_14)) (y34_0_15) (((eF34 0 15).trans ey34_0_15)) (u0_16) ((((show F34 0 16 = F 0 16 from (eF34 0 16).trans (hS34 0 16 rfl))).trans (eu0_16))) (u0_17) ((((show F34 0 17 = F 0 17 from (eF34 0 17).trans (hS34 0 17 rfl))).trans (eu0_17))) (u0_18) ((((show F34 0 18 = F 0 18 from (eF34 0 18).trans (hS34 0 18 rfl))).trans (eu0_18))) (show (1) = 0 ∨ (1) = 1 by omega) (show (1) = 1 → (u0_10) ≤ (y34_0_14) ∧ a1 + (y34_0_14) ≤ (u0_12) ∧ 1 ≤ (y34_0_15) ∧ (y34_0_15) ≤ a1 by omega) (show (u0_16) = -1 ∨ (u0_17) = 0 ∨ (u0_10) ≤ (u0_17) ∧ (u0_16) + (u0_17) ≤ (u0_12) ∧ 1 ≤ (u0_18) ∧ (u0_18) ≤ (u0_16) by omega) (show MT ((w2)) ((u0_12)) ((u0_11)) ((u0_10)) ((u0_9)) ((u0_13)) (a1) ((1) * (y34_0_14)) ((y34_0_15)) by assumption) (show IMP ((0 : Int) ≤ (u0_16)) (LGQ ((w2)) ((u0_12)) ((u0_11)) ((u0_10)) ((u0_16)) ((u0_17)) ((u0_18))) by assumption))
      · refine Ew_of (pc' := 27) (fun _ => x_aload_n rfl rfl) ?_
        refine Ew_of (pc' := 28) (fun _ => x_iload_n rfl rfl) ?_
        refine Ew_of (pc' := 29) (fun _ => x_aload_n rfl rfl) ?_
        refine v_g H (o := 0) (v := I (u0_10)) rfl rfl rfl rfl rfl (congrArg (fun z : Int => I z) ((((show F34 0 10 = F 0 10 from (eF34 0 10).trans (hS34 0 10 rfl))).trans (eu0_10)) : F34 0 10 = u0_10)) ?_
        refine v_inv H (o := 0) rfl rfl rfl rfl rfl rfl (by rfl) (C129 (D := pul [0, 1, 2, 3] D) (N := pul [0, 1, 2, 3] N) (HW_sub H (VS_of (show vsub V127 V129 [0, 1, 2, 3] = true by decide +kernel))) ((((show F34 0 0 = F 0 0 from (eF34 0 0).trans (hS34 0 0 rfl)))).trans (pf1)) ((((show F34 1 0 = F 1 0 from (eF34 1 0).trans (hS34 1 0 rfl)))).trans (pf2)) ((((show F34 0 8 = F 0 8 from (eF34 0 8).trans (hS34 0 8 rfl)))).trans (pf3)) (n2) (en2) (n3) (en3) (u0_6) ((((show F34 0 6 = F 0 6 from (eF34 0 6).trans (hS34 0 6 rfl))).trans (eu0_6))) (u0_10) ((((show F34 0 10 = F 0 10 from (eF34 0 10).trans (hS34 0 10 rfl))).trans (eu0_10))) (u0_11) ((((show F34 0 11 = F 0 11 from (eF34 0 11).trans (hS34 0 11 rfl))).trans (eu0_11))) (u0_12) ((((show F34 0 12 = F 0 12 from (eF34 0 12).trans (hS34 0 12 rfl))).trans (eu0_12))) (y34_0_14) (((eF34 0 14).trans ey34_0_14)) (y34_0_15) (((eF34 0 15).trans ey34_0_15)) (u1_1) ((((show F34 1 1 = F 1 1 from (eF34 1 1).trans (hS34 1 1 rfl))).trans (eu1_1))) (w2) (((show A34 2 = A 2 from (eA34 2).trans (funext (hA34 2 rfl)))).trans (ew2)) (w3) (((show A34 3 = A 3 from (eA34 3).trans (funext (hA34 3 rfl)))).trans (ew3)) (show inr (a1) by omega) (show inr (u0_10) by omega) (show 0 ≤ (u1_1) ∧ (u1_1) ≤ (n2) ∧ (n2) ≤ 65536 ∧ (u1_1) ≤ 16384 by omega) (show (u0_12) ≤ (u1_1) by omega) (show 1 ≤ (u0_10) ∧ (u0_10) ≤ 8 by omega) (show 0 ≤ (a1) ∧ (a1) < (u0_6) by omega) (show (u0_6) ≤ (n3) ∧ (n3) ≤ 16384 by omega) (show BKI ((w2)) ((w3)) ((u0_10)) ((u0_6)) by assumption) (show 1 ≤ (u0_10) ∧ (u0_10) ≤ (u0_10) by omega) (fun z38 σ38 F38' A38' H' O' hS38 hA38 y38_0_14 ey38_0_14 y38_0_15 ey38_0_15 pz38_0 pz38_1 pz38_2 => ⟨rretB rfl pz38_0, ?_⟩))
        refine v_back (c := c) (s := s) H (show vsub V127 V129 [0, 1, 2, 3] = true by decide +kernel) H' O' (fun F38 A38 H O' eF38 eA38 => ?_)
        have O := OUT_trans O O'
        -- Finder.nearest
        have r39 : (-2147483648 : Int) ≤ y38_0_14 ∧ y38_0_14 ≤ 2147483647 := by have h1 : (-2147483648 : Int) ≤ F38 0 14 ∧ F38 0 14 ≤ 2147483647 := H.krg 0 14 (by decide); rw [show F38 0 14 = y38_0_14 from ((eF38 0 14).trans ey38_0_14)] at h1; exact h1
        have r40 : (-2147483648 : Int) ≤ y38_0_15 ∧ y38_0_15 ≤ 2147483647 := by have h1 : (-2147483648 : Int) ≤ F38 0 15 ∧ F38 0 15 ≤ 2147483647 := H.krg 0 15 (by decide); rw [show F38 0 15 = y38_0_15 from ((eF38 0 15).trans ey38_0_15)] at h1; exact h1
        have hnl : ∀ r, (z38) = r → NRQ ((w2)) ((u0_12)) ((u0_11)) ((u0_10)) ((a1)) (r * (y38_0_14)) ((y38_0_15)) := fun r e => e ▸ pz38_2
        refine w_ifeq (t := 42) rfl rfl (show inr (z38) by omega) (fun b41 => ?_) (fun b41 => ?_)
        · refine Ew_of (pc' := 43) (fun _ => x_iconst rfl) ?_
          have : MT ((w2)) ((u0_12)) ((u0_11)) ((u0_10)) ((u0_9)) ((u0_13)) ((a1)) ((0) * (y38_0_14)) ((y38_0_15)) := by first | exact MT_8y (by omega) (hn8 1 (by omega)) rfl (by omega) | exact MT_8n (by omega) (hn8 0 (by omega)) rfl (hnl ((0)) (by omega)) | exact MT_n (by omega) (hnl ((0)) (by omega))
          exact w_ireturn rfl (k (0) _ _ _ H O (SF_trans (SF_trans (SF_refl) (SF_glu (ι := [0, 1, 2, 3]) hS34 eF34 (by decide +kernel)) (any_sub (l' := [(0, 14), (0, 15)]) rfl)) (SF_glu (ι := [0, 1, 2, 3]) hS38 eF38 (by decide +kernel)) (any_sub (l' := [(0, 14), (0, 15)]) rfl)) (SA_trans (SA_trans (SA_refl) (SA_glu (ι := [0, 1, 2, 3]) hA34 eA34 (by decide +kernel)) (any_subA (l' := []) rfl)) (SA_glu (ι := [0, 1, 2, 3]) hA38 eA38 (by decide +kernel)) (any_subA (l' := []) rfl)) (y38_0_14) (((eF38 0 14).trans ey38_0_14)) (y38_0_15) (((eF38 0 15).trans ey38_0_15)) (u0_16) (((((show F38 0 16 = F34 0 16 from (eF38 0 16).trans (hS38 0 16 rfl))).trans ((show F34 0 16 = F 0 16 from (eF34 0 16).trans (hS34 0 16 rfl)))).trans (eu0_16))) (u0_17) (((((show F38 0 17 = F34 0 17 from (eF38 0 17).trans (hS38 0 17 rfl))).trans ((show F34 0 17 = F 0 17 from (eF34 0 17).trans (hS34 0 17 rfl)))).trans (eu0_17))) (u0_18) (((((show F38 0 18 = F34 0 18 from (eF38 0 18).trans (hS38 0 18 rfl))).trans ((show F34 0 18 = F 0 18 from (eF34 0 18).trans (hS34 0 18 rfl)))).trans (eu0_18))) (show (0) = 0 ∨ (0) = 1 by omega) (show (0) = 1 → (u0_10) ≤ (y38_0_14) ∧ a1 + (y38_0_14) ≤ (u0_12) ∧ 1 ≤ (y38_0_15) ∧ (y38_0_15) ≤ a1 by omega) (show (u0_16) = -1 ∨ (u0_17) = 0 ∨ (u0_10) ≤ (u0_17) ∧ (u0_16) + (u0_17) ≤ (u0_12) ∧ 1 ≤ (u0_18) ∧ (u0_18) ≤ (u0_16) by omega) (show MT ((w2)) ((u0_12)) ((u0_11)) ((u0_10)) ((u0_9)) ((u0_13)) (a1) ((0) * (y38_0_14)) ((y38_0_15)) by assumption) (show IMP ((0 : Int) ≤ (u0_16)) (LGQ ((w2)) ((u0_12)) ((u0_11)) ((u0_10)) ((u0_16)) ((u0_17)) ((u0_18))) by assumption))
        · refine Ew_of (pc' := 39) (fun _ => x_iconst rfl) ?_
          refine Ew_of (pc' := 43) (fun _ => x_goto rfl rfl) ?_
          have : MT ((w2)) ((u0_12)) ((u0_11)) ((u0_10)) ((u0_9)) ((u0_13)) ((a1)) ((1) * (y38_0_14)) ((y38_0_15)) := by first | exact MT_8y (by omega) (hn8 1 (by omega)) rfl (by omega) | exact MT_8n (by omega) (hn8 0 (by omega)) rfl (hnl ((1)) (by omega)) | exact MT_n (by omega) (hnl ((1)) (by omega))
          exact w_ireturn rfl (k (1) _ _ _ H O (SF_trans (SF_trans (SF_refl) (SF_glu (ι := [0, 1, 2, 3]) hS34 eF34 (by decide +kernel)) (any_sub (l' := [(0, 14), (0, 15)]) rfl)) (SF_glu (ι := [0, 1, 2, 3]) hS38 eF38 (by decide +kernel)) (any_sub (l' := [(0, 14), (0, 15)]) rfl)) (SA_trans (SA_trans (SA_refl) (SA_glu (ι := [0, 1, 2, 3]) hA34 eA34 (by decide +kernel)) (any_subA (l' := []) rfl)) (SA_glu (ι := [0, 1, 2, 3]) hA38 eA38 (by decide +kernel)) (any_subA (l' := []) rfl)) (y38_0_14) (((eF38 0 14).trans ey38_0_14)) (y38_0_15) (((eF38 0 15).trans ey38_0_15)) (u0_16) (((((show F38 0 16 = F34 0 16 from (eF38 0 16).trans (hS38 0 16 rfl))).trans ((show F34 0 16 = F 0 16 from (eF34 0 16).trans (hS34 0 16 rfl)))).trans (eu0_16))) (u0_17) (((((show F38 0 17 = F34 0 17 from (eF38 0 17).trans (hS38 0 17 rfl))).trans ((show F34 0 17 = F 0 17 from (eF34 0 17).trans (hS34 0 17 rfl)))).trans (eu0_17))) (u0_18) (((((show F38 0 18 = F34 0 18 from (eF38 0 18).trans (hS38 0 18 rfl))).trans ((show F34 0 18 = F 0 18 from (eF34 0 18).trans (hS34 0 18 rfl)))).trans (eu0_18))) (show (1) = 0 ∨ (1) = 1 by omega) (show (1) = 1 → (u0_10) ≤ (y38_0_14) ∧ a1 + (y38_0_14) ≤ (u0_12) ∧ 1 ≤ (y38_0_15) ∧ (y38_0_15) ≤ a1 by omega) (show (u0_16) = -1 ∨ (u0_17) = 0 ∨ (u0_10) ≤ (u0_17) ∧ (u0_16) + (u0_17) ≤ (u0_12) ∧ 1 ≤ (u0_18) ∧ (u0_18) ≤ (u0_16) by omega) (show MT ((w2)) ((u0_12)) ((u0_11)) ((u0_10)) ((u0_9)) ((u0_13)) (a1) ((1) * (y38_0_14)) ((y38_0_15)) by assumption) (show IMP ((0 : Int) ≤ (u0_16)) (LGQ ((w2)) ((u0_12)) ((u0_11)) ((u0_10)) ((u0_16)) ((u0_17)) ((u0_18))) by assumption))
