abbrev V124 : vV := [(0, 5, [(4, 0), (4, 0), (4, 0), (4, 0), (0, 0), (0, 0), (0, 0), (4, 0), (4, 0), (0, 0), (0, 0), (0, 0), (0, 0), (0, 0), (0, 0), (0, 0), (0, 0), (0, 0), (0, 0)]), (0, 7, [(4, 0), (0, 0), (1, 0), (0, 0), (0, 0)]), (1, 0, []), (1, 1, []), (1, 1, [])]
/-- Finder.unlay: this, this.data, this.data.bytes, this.back, this.heads -/
theorem C124 {σE : rS} {D N : Nat → Nat} {F : hF} {A : hA} {d c s : Nat} {Q : wQ} (H : HW V124 σE D N F A) {a1 : Int} (pf1 : F 0 0 = (D 1 : Int)) (pf2 : F 1 0 = (D 2 : Int)) (pf3 : F 0 8 = (D 3 : Int)) (pf4 : F 0 7 = (D 4 : Int)) (n2 : Int) (en2 : (N 2 : Int) = n2) (n3 : Int) (en3 : (N 3 : Int) = n3) (n4 : Int) (en4 : (N 4 : Int) = n4) (u0_6 : Int) (eu0_6 : F 0 6 = u0_6) (u0_10 : Int) (eu0_10 : F 0 10 = u0_10) (u1_1 : Int) (eu1_1 : F 1 1 = u1_1) (w2 : Int → Int) (ew2 : A 2 = w2) (w3 : Int → Int) (ew3 : A 3 = w3) (w4 : Int → Int) (ew4 : A 4 = w4) (h0 : inr (a1)) (h1 : 0 ≤ (u1_1) ∧ (u1_1) ≤ (n2) ∧ (n2) ≤ 65536 ∧ (u1_1) ≤ 16384) (h2 : 1 ≤ (u0_10) ∧ (u0_10) ≤ 8) (h3 : 0 ≤ (a1) ∧ (a1) ≤ (u0_6)) (h4 : (u0_6) = 0 ∨ (u0_6) + (u0_10) ≤ (u1_1) + 1) (h5 : BKI ((w2)) ((w3)) ((u0_10)) ((u0_6))) (h6 : HDI ((w2)) ((w4)) ((u0_10)) ((u0_6))) (h7 : (n4) = 2048) (h8 : 0 ≤ (u0_6) ∧ (u0_6) ≤ (n3) ∧ (n3) ≤ 16384) (k : ∀ (σ : rS) (Fₚ : hF) (Aₚ : hA), HW V124 σ D N Fₚ Aₚ → OUT (V124).length D N σE c s D N σ c s → SF [(0, 6)] F Fₚ → SA [4] A Aₚ → ∀ y0_6 : Int, Fₚ 0 6 = y0_6 → ∀ v4 : Int → Int, Aₚ 4 = v4 → ((y0_6) = (a1)) → (BKI ((w2)) ((w3)) ((u0_10)) ((y0_6))) → (HDI ((w2)) ((v4)) ((u0_10)) ((y0_6))) → Q none σ c s) : Ew 124 (d + 1) 0 (rargs 0 [.ref (D 0), I a1]) [] σE c s Q := by
  have O := OUT_refl (n := (V124).length) (D := D) (N := N) (σ := σE) (c := c) (s := s)
  have HE := H
  have r1 : (-2147483648 : Int) ≤ u0_6 ∧ u0_6 ≤ 2147483647 := by have h1 : (-2147483648 : Int) ≤ F 0 6 ∧ F 0 6 ≤ 2147483647 := H.krg 0 6 (by decide); rw [show F 0 6 = u0_6 from (eu0_6)] at h1; exact h1
  have r2 : (-2147483648 : Int) ≤ u0_10 ∧ u0_10 ≤ 2147483647 := by have h1 : (-2147483648 : Int) ≤ F 0 10 ∧ F 0 10 ≤ 2147483647 := H.krg 0 10 (by decide); rw [show F 0 10 = u0_10 from (eu0_10)] at h1; exact h1
  have r3 : (-2147483648 : Int) ≤ u1_1 ∧ u1_1 ≤ 2147483647 := by have h1 : (-2147483648 : Int) ≤ F 1 1 ∧ F 1 1 ≤ 2147483647 := H.krg 1 1 (by decide); rw [show F 1 1 = u1_1 from (eu1_1)] at h1; exact h1
  have r4 : (0 : Int) ≤ n2 ∧ n2 ≤ 1000000 := by have h1 := H.nle 2 (by decide); have h2 : (N 2 : Int) = n2 := en2; omega
  have r5 : (0 : Int) ≤ n3 ∧ n3 ≤ 1000000 := by have h1 := H.nle 3 (by decide); have h2 : (N 3 : Int) = n3 := en3; omega
  have r6 : (0 : Int) ≤ n4 ∧ n4 ≤ 1000000 := by have h1 := H.nle 4 (by decide); have h2 : (N 4 : Int) = n4 := en4; omega
  suffices hl0 : ∀ (m : Nat), ∀ (ls : rO) (σ : rS) (F_0 : hF) (A_0 : hA) , rlook ls 0 = some (.ref (D 0)) → rlook ls 1 = some (I (a1)) → HW V124 σ D N F_0 A_0 → OUT (V124).length D N σE c s D N σ c s → SF [(0, 6)] F F_0 → SA [4] A A_0 → ∀ y0_0_6 : Int, F_0 0 6 = y0_0_6 → ∀ w0_4 : Int → Int, A_0 4 = w0_4 → ((a1) ≤ (y0_0_6) ∧ (y0_0_6) ≤ (u0_6)) → (BKI ((w2)) ((w3)) ((u0_10)) ((y0_0_6))) → (HDI ((w2)) ((w0_4)) ((u0_10)) ((y0_0_6))) → ((y0_0_6) - (a1)).toNat = m → Ew 124 (d + 1) 0 ls [] σ c s Q from
    hl0 _ _ _ _ _  (rfl) (rfl) H O (SF_refl) (SA_refl)   (u0_6) ((eu0_6)) (w4) (ew4) (show (a1) ≤ (u0_6) ∧ (u0_6) ≤ (u0_6) by omega) (show BKI ((w2)) ((w3)) ((u0_10)) ((u0_6)) by assumption) (show HDI ((w2)) ((w4)) ((u0_10)) ((u0_6)) by assumption) rfl
  as_aux_lemma =>
  intro m
  induction m using Nat.strongRecOn with
  | _ m ih0 =>
    intro ls σ F_0 A_0  l0_0 l0_1 H O hS_0 hA_0   y0_0_6 ey0_0_6 w0_4 ew0_4 j0_0 j0_1 j0_2 hm0
    have r7 : (-2147483648 : Int) ≤ y0_0_6 ∧ y0_0_6 ≤ 2147483647 := by have h1 : (-2147483648 : Int) ≤ F_0 0 6 ∧ F_0 0 6 ≤ 2147483647 := H.krg 0 6 (by decide); rw [show F_0 0 6 = y0_0_6 from (ey0_0_6)] at h1; exact h1
    have j0_b : BKI ((w2)) ((w3)) ((u0_10)) ((y0_0_6)) := by assumption
    have j0_h : HDI ((w2)) ((w0_4)) ((u0_10)) ((y0_0_6)) := by assumption
    refine Ew_of (pcₚ := 1) (fun _ => x_aload_n rfl l0_0) ?_
    refine v_g H (o := 0) (v := I (y0_0_6)) rfl rfl rfl rfl rfl (congrArg (fun z : Int => I z) ((ey0_0_6) : F_0 0 6 = y0_0_6)) ?_
    refine Ew_of (pcₚ := 5) (fun _ => x_iload_n rfl l0_1) ?_
    refine w_icmple (t := 47) rfl rfl (show inr (y0_0_6) by omega) (show inr (a1) by omega) (fun b8 => ?_) (fun b8 => ?_)
    · exact w_ret rfl (k _ _ _ H O (SF_trans (SF_refl) hS_0 (any_sub rfl)) (SA_trans (SA_refl) hA_0 (any_subA rfl)) (y0_0_6) ((ey0_0_6)) (w0_4) (ew0_4) (show (y0_0_6) = a1 by omega) (show BKI ((w2)) ((w3)) ((u0_10)) ((y0_0_6)) by assumption) (show HDI ((w2)) ((w0_4)) ((u0_10)) ((y0_0_6)) by assumption))
    · refine Ew_of (pcₚ := 9) (fun _ => x_aload_n rfl l0_0) ?_
      refine v_g H (o := 0) (v := .ref (D 4)) rfl rfl rfl rfl rfl (vrf (((hS_0 0 7 rfl)).trans (pf4))) ?_
      refine Ew_of (pcₚ := 13) (fun _ => x_aload_n rfl l0_0) ?_
      refine Ew_of (pcₚ := 14) (fun _ => x_aload_n rfl l0_0) ?_
      refine v_g H (o := 0) (v := I (y0_0_6)) rfl rfl rfl rfl rfl (congrArg (fun z : Int => I z) ((ey0_0_6) : F_0 0 6 = y0_0_6)) ?_
      refine Ew_of (pcₚ := 18) (fun _ => x_iconst rfl) ?_
      refine w_isub rfl ?_
      refine v_inv H (o := 0) rfl rfl rfl rfl rfl rfl (by rfl) (C122 (D := pul [0, 1, 2] D) (N := pul [0, 1, 2] N) (HW_sub H (VS_of (show vsub V124 V122 [0, 1, 2] = true by decide +kernel))) (((hS_0 0 0 rfl)).trans (pf1)) (((hS_0 1 0 rfl)).trans (pf2)) (n2) (en2) (u0_10) (((hS_0 0 10 rfl).trans (eu0_10))) (u1_1) (((hS_0 1 1 rfl).trans (eu1_1))) (w2) ((funext (hA_0 2 rfl)).trans (ew2)) (show inr ((y0_0_6 - 1)) by omega) (show 0 ≤ (u1_1) ∧ (u1_1) ≤ (n2) ∧ (n2) ≤ 65536 ∧ (u1_1) ≤ 16384 by omega) (show 1 ≤ (u0_10) ∧ (u0_10) ≤ 8 by omega) (show 0 ≤ ((y0_0_6 - 1)) ∧ ((y0_0_6 - 1)) + (u0_10) ≤ (u1_1) by omega) (fun z9 σ9 F9ₚ A9ₚ Hₚ Oₚ hS9 hA9 pz9_0 pz9_1 pz9_2 => ⟨rfl, ?_⟩))
      refine v_back (c := c) (s := s) H (show vsub V124 V122 [0, 1, 2] = true by decide +kernel) Hₚ Oₚ (fun F9 A9 H Oₚ eF9 eA9 => ?_)
      have O := OUT_trans O Oₚ
      -- Finder.hashAt
      refine Ew_of (pcₚ := 23) (fun _ => x_aload_n rfl l0_0) ?_
      refine v_g H (o := 0) (v := .ref (D 3)) rfl rfl rfl rfl rfl (vrf (((((show F9 0 8 = F_0 0 8 from (eF9 0 8).trans (hS9 0 8 rfl))).trans (hS_0 0 8 rfl))).trans (pf3))) ?_
      refine Ew_of (pcₚ := 27) (fun _ => x_aload_n rfl l0_0) ?_
      refine v_g H (o := 0) (v := I (y0_0_6)) rfl rfl rfl rfl rfl (congrArg (fun z : Int => I z) ((((show F9 0 6 = F_0 0 6 from (eF9 0 6).trans (hS9 0 6 rfl))).trans (ey0_0_6)) : F9 0 6 = y0_0_6)) ?_
      refine Ew_of (pcₚ := 31) (fun _ => x_iconst rfl) ?_
      refine w_isub rfl ?_
      refine v_lI H (o := 3) rfl rfl rfl rfl (n := n3) (en3) (show 0 ≤ (y0_0_6 - 1) ∧ (y0_0_6 - 1) < n3 by omega) (fun v10 ev10 qv10 => ?_)
      have ev10 : (w3) ((y0_0_6 - 1)) = v10 := (congrFun (((show A9 3 = A_0 3 from (eA9 3))).trans ((funext (hA_0 3 rfl)).trans (ew3))) ((y0_0_6 - 1))).symm.trans ev10
      have hbv := ev10
      have hwb := j0_b ((y0_0_6) - 1) (by omega) (by omega)
      have hhn : HDI ((w2)) (upd1 ((w0_4)) ((z9)) ((v10))) ((u0_10)) ((y0_0_6) - 1) := HDI_un j0_h j0_b rfl (by omega) pz9_2 hbv.symm
      have hbn : BKI ((w2)) ((w3)) ((u0_10)) ((y0_0_6) - 1) := BKI_le j0_b (by omega)
      refine v_sI H (o := 4) (z := v10) rfl rfl rfl rfl (n := n4) (en4) (show 0 ≤ z9 ∧ z9 < n4 by omega) (show inr (v10) by omega) (fun σ H Oₚ => ?_)
      have O := OUT_trans O Oₚ
      refine Ew_of (pcₚ := 35) (fun _ => x_aload_n rfl l0_0) ?_
      refine Ew_of (pcₚ := 36) (fun _ => x_dup rfl rfl) ?_
      refine v_g H (o := 0) (v := I (y0_0_6)) rfl rfl rfl rfl rfl (congrArg (fun z : Int => I z) ((((show F9 0 6 = F_0 0 6 from (eF9 0 6).trans (hS9 0 6 rfl))).trans (ey0_0_6)) : F9 0 6 = y0_0_6)) ?_
      refine Ew_of (pcₚ := 40) (fun _ => x_iconst rfl) ?_
      refine w_isub rfl ?_
      refine v_p H (o := 0) (z := (y0_0_6 - 1)) (v := I ((y0_0_6 - 1))) rfl rfl rfl rfl rfl rfl rfl rfl (show (-2147483648 : Int) ≤ (y0_0_6 - 1) ∧ (y0_0_6 - 1) ≤ 2147483647 by omega) (fun σ H Oₚ => ?_)
      have O := OUT_trans O Oₚ
      refine Ew_of (pcₚ := 0) (fun _ => x_goto rfl rfl) ?_
      exact ih0 _ (by omega) _ _ _ _  (l0_0) (l0_1) H O (SF_upd (SF_trans (hS_0) (SF_glu (ι := [0, 1, 2]) hS9 eF9 (by decide +kernel)) (any_sub (lₚ := []) rfl)) rfl) (SA_upd (SA_trans (hA_0) (SA_glu (ι := [0, 1, 2]) hA9 eA9 (by decide +kernel)) (any_subA (lₚ := []) rfl)) rfl)   ((y0_0_6 - 1)) (rfl) (upd1 (w0_4) (z9) (v10)) (congrArg (fun q => upd1 q (z9) (v10)) (((show A9 4 = A_0 4 from (eA9 4))).trans (ew0_4))) (show (a1) ≤ ((y0_0_6 - 1)) ∧ ((y0_0_6 - 1)) ≤ (u0_6) by omega) (show BKI ((w2)) ((w3)) ((u0_10)) (((y0_0_6 - 1))) by assumption) (show HDI ((w2)) ((upd1 (w0_4) (z9) (v10))) ((u0_10)) (((y0_0_6 - 1))) by assumption) rfl
abbrev V128 : vV := [(0, 5, [(4, 0), (4, 0), (4, 0), (4, 0), (0, 0), (0, 0), (0, 0), (4, 0), (4, 0), (0, 0), (0, 0), (0, 0), (0, 0), (0, 0), (0, 0), (0, 0), (0, 0), (0, 0), (0, 0)]), (0, 7, [(4, 0), (0, 0), (1, 0), (0, 0), (0, 0)]), (1, 0, [])]
/-- Finder.common: this, this.data, this.data.bytes -/
theorem C128 {σE : rS} {D N : Nat → Nat} {F : hF} {A : hA} {d c s : Nat} {Q : wQ} (H : HW V128 σE D N F A) {a1 a2 : Int} (pf1 : F 0 0 = (D 1 : Int)) (pf2 : F 1 0 = (D 2 : Int)) (n2 : Int) (en2 : (N 2 : Int) = n2) (u0_12 : Int) (eu0_12 : F 0 12 = u0_12) (u1_1 : Int) (eu1_1 : F 1 1 = u1_1) (h0 : inr (a1)) (h1 : inr (a2)) (h2 : 0 ≤ (u1_1) ∧ (u1_1) ≤ (n2) ∧ (n2) ≤ 65536 ∧ (u1_1) ≤ 16384) (h3 : (u0_12) ≤ (u1_1)) (h4 : 0 ≤ (a1) ∧ (a1) ≤ (a2) ∧ (a2) ≤ 16384) (k : ∀ (z : Int) (σ : rS) (Fₚ : hF) (Aₚ : hA), HW V128 σ D N Fₚ Aₚ → OUT (V128).length D N σE c s D N σ c s → SF [] F Fₚ → SA [] A Aₚ → (inr (z)) → (0 ≤ (z)) → ((z) = 0 ∨ (a2) + (z) ≤ (u0_12)) → Q (some (I z)) σ c s) : Ew 128 (d + 0) 0 (rargs 0 [.ref (D 0), I a1, I a2]) [] σE c s Q := by
  have O := OUT_refl (n := (V128).length) (D := D) (N := N) (σ := σE) (c := c) (s := s)
  have HE := H
  have r1 : (-2147483648 : Int) ≤ u0_12 ∧ u0_12 ≤ 2147483647 := by have h1 : (-2147483648 : Int) ≤ F 0 12 ∧ F 0 12 ≤ 2147483647 := H.krg 0 12 (by decide); rw [show F 0 12 = u0_12 from (eu0_12)] at h1; exact h1
  have r2 : (-2147483648 : Int) ≤ u1_1 ∧ u1_1 ≤ 2147483647 := by have h1 : (-2147483648 : Int) ≤ F 1 1 ∧ F 1 1 ≤ 2147483647 := H.krg 1 1 (by decide); rw [show F 1 1 = u1_1 from (eu1_1)] at h1; exact h1
  have r3 : (0 : Int) ≤ n2 ∧ n2 ≤ 1000000 := by have h1 := H.nle 2 (by decide); have h2 : (N 2 : Int) = n2 := en2; omega
  refine Ew_of (pcₚ := 1) (fun _ => x_iconst rfl) ?_
  refine Ew_of (pcₚ := 2) (fun _ => x_istore_n rfl) ?_
  suffices hl2 : ∀ (m : Nat), ∀ (ls : rO) (σ : rS) (F_2 : hF) (A_2 : hA) (x2_3 : Int), rlook ls 0 = some (.ref (D 0)) → rlook ls 1 = some (I (a1)) → rlook ls 2 = some (I (a2)) → rlook ls 3 = some (I (x2_3)) → HW V128 σ D N F_2 A_2 → OUT (V128).length D N σE c s D N σ c s → SF [] F F_2 → SA [] A A_2 → (inr (x2_3)) → (0 ≤ (x2_3)) → ((x2_3) = 0 ∨ (a2) + (x2_3) ≤ (u0_12)) → ((x2_3) ≤ 16384) → ((u0_12) - (a2) - (x2_3)).toNat = m → Ew 128 (d + 0) 2 ls [] σ c s Q from
    hl2 _ _ _ _ _ (0) (rk_o (rfl) rfl rfl) (rk_o (rfl) rfl rfl) (rk_o (rfl) rfl rfl) (rk_s) H O (SF_refl) (SA_refl)     (show inr (0) by omega) (show 0 ≤ (0) by omega) (show (0) = 0 ∨ (a2) + (0) ≤ (u0_12) by omega) (show (0) ≤ 16384 by omega) rfl
  as_aux_lemma =>
  intro m
  induction m using Nat.strongRecOn with
  | _ m ih2 =>
    intro ls σ F_2 A_2 x2_3 l2_0 l2_1 l2_2 l2_3 H O hS_2 hA_2     j2_0 j2_1 j2_2 j2_3 hm2
    refine Ew_of (pcₚ := 3) (fun _ => x_iload_n rfl l2_2) ?_
    refine Ew_of (pcₚ := 4) (fun _ => x_iload_n rfl l2_3) ?_
    refine w_iadd rfl ?_
    refine Ew_of (pcₚ := 6) (fun _ => x_aload_n rfl l2_0) ?_
    refine v_g H (o := 0) (v := I (u0_12)) rfl rfl rfl rfl rfl (congrArg (fun z : Int => I z) (((hS_2 0 12 rfl).trans (eu0_12)) : F_2 0 12 = u0_12)) ?_
    refine w_icmpge (t := 43) rfl rfl (show inr ((a2 + x2_3)) by omega) (show inr (u0_12) by omega) (fun b4 => ?_) (fun b4 => ?_)
    · refine Ew_of (pcₚ := 44) (fun _ => x_iload_n rfl l2_3) ?_
      exact w_ireturn rfl (k (x2_3) _ _ _ H O (SF_trans (SF_refl) hS_2 (any_sub rfl)) (SA_trans (SA_refl) hA_2 (any_subA rfl)) (show inr (x2_3) by omega) (show 0 ≤ (x2_3) by omega) (show (x2_3) = 0 ∨ a2 + (x2_3) ≤ (u0_12) by omega))
    · refine Ew_of (pcₚ := 13) (fun _ => x_aload_n rfl l2_0) ?_
      refine v_g H (o := 0) (v := .ref (D 1)) rfl rfl rfl rfl rfl (vrf (((hS_2 0 0 rfl)).trans (pf1))) ?_
      refine v_g H (o := 1) (v := .ref (D 2)) rfl rfl rfl rfl rfl (vrf (((hS_2 1 0 rfl)).trans (pf2))) ?_
      refine Ew_of (pcₚ := 20) (fun _ => x_iload_n rfl l2_1) ?_
      refine Ew_of (pcₚ := 21) (fun _ => x_iload_n rfl l2_3) ?_
      refine w_iadd rfl ?_
      refine v_lB H (o := 2) rfl rfl rfl rfl (n := n2) (en2) (show 0 ≤ (a1 + x2_3) ∧ (a1 + x2_3) < n2 by omega) (fun v5 ev5 qv5 => ?_)
      have ev5 : (A 2) ((a1 + x2_3)) = v5 := (congrFun (funext (hA_2 2 rfl)) ((a1 + x2_3))).symm.trans ev5
      refine Ew_of (pcₚ := 24) (fun _ => x_aload_n rfl l2_0) ?_
      refine v_g H (o := 0) (v := .ref (D 1)) rfl rfl rfl rfl rfl (vrf (((hS_2 0 0 rfl)).trans (pf1))) ?_
      refine v_g H (o := 1) (v := .ref (D 2)) rfl rfl rfl rfl rfl (vrf (((hS_2 1 0 rfl)).trans (pf2))) ?_
      refine Ew_of (pcₚ := 31) (fun _ => x_iload_n rfl l2_2) ?_
      refine Ew_of (pcₚ := 32) (fun _ => x_iload_n rfl l2_3) ?_
      refine w_iadd rfl ?_
      refine v_lB H (o := 2) rfl rfl rfl rfl (n := n2) (en2) (show 0 ≤ (a2 + x2_3) ∧ (a2 + x2_3) < n2 by omega) (fun v6 ev6 qv6 => ?_)
      have ev6 : (A 2) ((a2 + x2_3)) = v6 := (congrFun (funext (hA_2 2 rfl)) ((a2 + x2_3))).symm.trans ev6
      refine w_icmpne (t := 43) rfl rfl (show inr (v5) by omega) (show inr (v6) by omega) (fun b7 => ?_) (fun b7 => ?_)
      · refine Ew_of (pcₚ := 44) (fun _ => x_iload_n rfl l2_3) ?_
        exact w_ireturn rfl (k (x2_3) _ _ _ H O (SF_trans (SF_refl) hS_2 (any_sub rfl)) (SA_trans (SA_refl) hA_2 (any_subA rfl)) (show inr (x2_3) by omega) (show 0 ≤ (x2_3) by omega) (show (x2_3) = 0 ∨ a2 + (x2_3) ≤ (u0_12) by omega))
      · refine Ew_of (pcₚ := 40) (fun _ => x_iinc (len := 3) rfl (l2_3)) ?_
        refine Ew_of (pcₚ := 2) (fun _ => x_goto rfl rfl) ?_
        exact ih2 _ (by omega) _ _ _ _ ((x2_3 + 1)) (rk_o (l2_0) rfl rfl) (rk_o (l2_1) rfl rfl) (rk_o (l2_2) rfl rfl) (rk_s) H O (hS_2) (hA_2)     (show inr ((x2_3 + 1)) by omega) (show 0 ≤ ((x2_3 + 1)) by omega) (show ((x2_3 + 1)) = 0 ∨ (a2) + ((x2_3 + 1)) ≤ (u0_12) by omega) (show ((x2_3 + 1)) ≤ 16384 by omega) rfl
abbrev V129 : vV := [(0, 5, [(4, 0), (4, 0), (4, 0), (4, 0), (0, 0), (0, 0), (0, 0), (4, 0), (4, 0), (0, 0), (0, 0), (0, 0), (0, 0), (0, 0), (0, 0), (0, 0), (0, 0), (0, 0), (0, 0)]), (0, 7, [(4, 0), (0, 0), (1, 0), (0, 0), (0, 0)]), (1, 0, []), (1, 1, [])]
/-- Finder.nearest: this, this.data, this.data.bytes, this.back -/
theorem C129 {σE : rS} {D N : Nat → Nat} {F : hF} {A : hA} {d c s : Nat} {Q : wQ} (H : HW V129 σE D N F A) {a1 a2 : Int} (pf1 : F 0 0 = (D 1 : Int)) (pf2 : F 1 0 = (D 2 : Int)) (pf3 : F 0 8 = (D 3 : Int)) (n2 : Int) (en2 : (N 2 : Int) = n2) (n3 : Int) (en3 : (N 3 : Int) = n3) (u0_6 : Int) (eu0_6 : F 0 6 = u0_6) (u0_10 : Int) (eu0_10 : F 0 10 = u0_10) (u0_12 : Int) (eu0_12 : F 0 12 = u0_12) (u0_14 : Int) (eu0_14 : F 0 14 = u0_14) (u0_15 : Int) (eu0_15 : F 0 15 = u0_15) (u1_1 : Int) (eu1_1 : F 1 1 = u1_1) (w2 : Int → Int) (ew2 : A 2 = w2) (w3 : Int → Int) (ew3 : A 3 = w3) (h0 : inr (a1)) (h1 : inr (a2)) (h2 : 0 ≤ (u1_1) ∧ (u1_1) ≤ (n2) ∧ (n2) ≤ 65536 ∧ (u1_1) ≤ 16384) (h3 : (u0_12) ≤ (u1_1)) (h4 : 1 ≤ (u0_10) ∧ (u0_10) ≤ 8) (h5 : 0 ≤ (a1) ∧ (a1) < (u0_6)) (h6 : (u0_6) ≤ (n3) ∧ (n3) ≤ 16384) (h7 : BKI ((w2)) ((w3)) ((u0_10)) ((u0_6))) (h8 : 1 ≤ (a2)) (k : ∀ (z : Int) (σ : rS) (Fₚ : hF) (Aₚ : hA), HW V129 σ D N Fₚ Aₚ → OUT (V129).length D N σE c s D N σ c s → SF [(0, 14), (0, 15)] F Fₚ → SA [] A Aₚ → ∀ y0_14 : Int, Fₚ 0 14 = y0_14 → ∀ y0_15 : Int, Fₚ 0 15 = y0_15 → ((z) = 0 ∨ (z) = 1) → ((z) = 1 → (a2) ≤ (y0_14) ∧ (a1) + (y0_14) ≤ (u0_12) ∧ 1 ≤ (y0_15) ∧ (y0_15) ≤ (a1)) → Q (some (I z)) σ c s) : Ew 129 (d + 1) 0 (rargs 0 [.ref (D 0), I a1, I a2]) [] σE c s Q := by
  have O := OUT_refl (n := (V129).length) (D := D) (N := N) (σ := σE) (c := c) (s := s)
  have HE := H
  have r1 : (-2147483648 : Int) ≤ u0_6 ∧ u0_6 ≤ 2147483647 := by have h1 : (-2147483648 : Int) ≤ F 0 6 ∧ F 0 6 ≤ 2147483647 := H.krg 0 6 (by decide); rw [show F 0 6 = u0_6 from (eu0_6)] at h1; exact h1
  have r2 : (-2147483648 : Int) ≤ u0_10 ∧ u0_10 ≤ 2147483647 := by have h1 : (-2147483648 : Int) ≤ F 0 10 ∧ F 0 10 ≤ 2147483647 := H.krg 0 10 (by decide); rw [show F 0 10 = u0_10 from (eu0_10)] at h1; exact h1
  have r3 : (-2147483648 : Int) ≤ u0_12 ∧ u0_12 ≤ 2147483647 := by have h1 : (-2147483648 : Int) ≤ F 0 12 ∧ F 0 12 ≤ 2147483647 := H.krg 0 12 (by decide); rw [show F 0 12 = u0_12 from (eu0_12)] at h1; exact h1
  have r4 : (-2147483648 : Int) ≤ u0_14 ∧ u0_14 ≤ 2147483647 := by have h1 : (-2147483648 : Int) ≤ F 0 14 ∧ F 0 14 ≤ 2147483647 := H.krg 0 14 (by decide); rw [show F 0 14 = u0_14 from (eu0_14)] at h1; exact h1
  have r5 : (-2147483648 : Int) ≤ u0_15 ∧ u0_15 ≤ 2147483647 := by have h1 : (-2147483648 : Int) ≤ F 0 15 ∧ F 0 15 ≤ 2147483647 := H.krg 0 15 (by decide); rw [show F 0 15 = u0_15 from (eu0_15)] at h1; exact h1
  have r6 : (-2147483648 : Int) ≤ u1_1 ∧ u1_1 ≤ 2147483647 := by have h1 : (-2147483648 : Int) ≤ F 1 1 ∧ F 1 1 ≤ 2147483647 := H.krg 1 1 (by decide); rw [show F 1 1 = u1_1 from (eu1_1)] at h1; exact h1
  have r7 : (0 : Int) ≤ n2 ∧ n2 ≤ 1000000 := by have h1 := H.nle 2 (by decide); have h2 : (N 2 : Int) = n2 := en2; omega
  have r8 : (0 : Int) ≤ n3 ∧ n3 ≤ 1000000 := by have h1 := H.nle 3 (by decide); have h2 : (N 3 : Int) = n3 := en3; omega
  have hbk : BKI ((w2)) ((w3)) ((u0_10)) ((u0_6)) := by assumption
  refine Ew_of (pcₚ := 1) (fun _ => x_aload_n rfl rfl) ?_
  refine v_g H (o := 0) (v := .ref (D 3)) rfl rfl rfl rfl rfl (vrf (pf3)) ?_
  refine Ew_of (pcₚ := 5) (fun _ => x_iload_n rfl rfl) ?_
  refine v_lI H (o := 3) rfl rfl rfl rfl (n := n3) (en3) (show 0 ≤ a1 ∧ a1 < n3 by omega) (fun v9 ev9 qv9 => ?_)
  have ev9 : (w3) (a1) = v9 := (congrFun (ew3) (a1)).symm.trans ev9
  have hb6 := hbk ((a1)) (by omega) (by omega)
  rw [ev9] at hb6
  have hb7 : -1 ≤ (v9) ∧ (v9) < (a1) := ⟨hb6.1, hb6.2.1⟩
  clear hb6
  refine Ew_of (pcₚ := 7) (fun _ => x_istore_n rfl) ?_
  refine Ew_of (pcₚ := 8) (fun _ => x_iconst rfl) ?_
  refine Ew_of (pcₚ := 10) (fun _ => x_istore rfl) ?_
  suffices hl10 : ∀ (m : Nat), ∀ (ls : rO) (σ : rS) (F_10 : hF) (A_10 : hA) (x10_3 : Int) (x10_4 : Int), rlook ls 0 = some (.ref (D 0)) → rlook ls 1 = some (I (a1)) → rlook ls 2 = some (I (a2)) → rlook ls 3 = some (I (x10_3)) → rlook ls 4 = some (I (x10_4)) → HW V129 σ D N F_10 A_10 → OUT (V129).length D N σE c s D N σ c s → SF [] F F_10 → SA [] A A_10 → (inr (x10_3)) → (inr (x10_4)) → ((0) ≤ (x10_4)) → ((x10_4) ≤ (0) ∨ (x10_4) ≤ ((a1))) → (-1 ≤ (x10_3) ∧ (x10_3) < (a1)) → (((a1)) - (x10_4)).toNat = m → Ew 129 (d + 1) 10 ls [] σ c s Q from
    hl10 _ _ _ _ _ (v9) (0) (rk_o (rk_o (rfl) rfl rfl) rfl rfl) (rk_o (rk_o (rfl) rfl rfl) rfl rfl) (rk_o (rk_o (rfl) rfl rfl) rfl rfl) (rk_o (rk_s) rfl rfl) (rk_s) H O (SF_refl) (SA_refl)     (show inr (v9) by omega) (show inr (0) by omega) (show (0) ≤ (0) by omega) (show (0) ≤ (0) ∨ (0) ≤ ((a1)) by omega) (show -1 ≤ (v9) ∧ (v9) < (a1) by omega) rfl
  as_aux_lemma =>
  intro m
  induction m using Nat.strongRecOn with
  | _ m ih10 =>
    intro ls σ F_10 A_10 x10_3 x10_4 l10_0 l10_1 l10_2 l10_3 l10_4 H O hS_10 hA_10     j10_0 j10_1 j10_2 j10_3 j10_4 hm10
    refine Ew_of (pcₚ := 12) (fun _ => x_iload rfl l10_4) ?_
    refine Ew_of (pcₚ := 13) (fun _ => x_iload_n rfl l10_1) ?_
    refine w_icmpge (t := 72) rfl rfl (show inr (x10_4) by omega) (show inr (a1) by omega) (fun b10 => ?_) (fun b10 => ?_)
    · refine Ew_of (pcₚ := 73) (fun _ => x_iconst rfl) ?_
      exact w_ireturn rfl (k (0) _ _ _ H O (SF_trans (SF_refl) hS_10 (any_sub rfl)) (SA_trans (SA_refl) hA_10 (any_subA rfl)) (u0_14) (((hS_10 0 14 rfl).trans (eu0_14))) (u0_15) (((hS_10 0 15 rfl).trans (eu0_15))) (show (0) = 0 ∨ (0) = 1 by omega) (show (0) = 1 → a2 ≤ (u0_14) ∧ a1 + (u0_14) ≤ (u0_12) ∧ 1 ≤ (u0_15) ∧ (u0_15) ≤ a1 by omega))
    · refine Ew_of (pcₚ := 17) (fun _ => x_iload_n rfl l10_3) ?_
      refine w_iflt (t := 72) rfl rfl (show inr (x10_3) by omega) (fun b11 => ?_) (fun b11 => ?_)
      · refine Ew_of (pcₚ := 73) (fun _ => x_iconst rfl) ?_
        exact w_ireturn rfl (k (0) _ _ _ H O (SF_trans (SF_refl) hS_10 (any_sub rfl)) (SA_trans (SA_refl) hA_10 (any_subA rfl)) (u0_14) (((hS_10 0 14 rfl).trans (eu0_14))) (u0_15) (((hS_10 0 15 rfl).trans (eu0_15))) (show (0) = 0 ∨ (0) = 1 by omega) (show (0) = 1 → a2 ≤ (u0_14) ∧ a1 + (u0_14) ≤ (u0_12) ∧ 1 ≤ (u0_15) ∧ (u0_15) ≤ a1 by omega))
      · refine Ew_of (pcₚ := 21) (fun _ => x_iload_n rfl l10_1) ?_
        refine Ew_of (pcₚ := 22) (fun _ => x_iload_n rfl l10_3) ?_
        refine w_isub rfl ?_
        refine Ew_of (pcₚ := 24) (fun _ => x_aload_n rfl l10_0) ?_
        have r12 : (-2147483648 : Int) ≤ F 0 11 ∧ F 0 11 ≤ 2147483647 := by have h1 : (-2147483648 : Int) ≤ F_10 0 11 ∧ F_10 0 11 ≤ 2147483647 := H.krg 0 11 (by decide); rw [show F_10 0 11 = F 0 11 from (hS_10 0 11 rfl)] at h1; exact h1
        refine v_g H (o := 0) (v := I (F 0 11)) rfl rfl rfl rfl rfl (congrArg (fun z : Int => I z) ((hS_10 0 11 rfl) : F_10 0 11 = F 0 11)) ?_
        refine w_icmpgt (t := 72) rfl rfl (show inr ((a1 - x10_3)) by omega) (show inr (F 0 11) by omega) (fun b13 => ?_) (fun b13 => ?_)
        · refine Ew_of (pcₚ := 73) (fun _ => x_iconst rfl) ?_
          exact w_ireturn rfl (k (0) _ _ _ H O (SF_trans (SF_refl) hS_10 (any_sub rfl)) (SA_trans (SA_refl) hA_10 (any_subA rfl)) (u0_14) (((hS_10 0 14 rfl).trans (eu0_14))) (u0_15) (((hS_10 0 15 rfl).trans (eu0_15))) (show (0) = 0 ∨ (0) = 1 by omega) (show (0) = 1 → a2 ≤ (u0_14) ∧ a1 + (u0_14) ≤ (u0_12) ∧ 1 ≤ (u0_15) ∧ (u0_15) ≤ a1 by omega))
        · refine Ew_of (pcₚ := 31) (fun _ => x_aload_n rfl l10_0) ?_
          refine Ew_of (pcₚ := 32) (fun _ => x_iload_n rfl l10_3) ?_
          refine Ew_of (pcₚ := 33) (fun _ => x_iload_n rfl l10_1) ?_
          refine v_inv H (o := 0) rfl rfl rfl rfl rfl rfl (by rfl) (C128 (D := pul [0, 1, 2] D) (N := pul [0, 1, 2] N) (HW_sub H (VS_of (show vsub V129 V128 [0, 1, 2] = true by decide +kernel))) (((hS_10 0 0 rfl)).trans (pf1)) (((hS_10 1 0 rfl)).trans (pf2)) (n2) (en2) (u0_12) (((hS_10 0 12 rfl).trans (eu0_12))) (u1_1) (((hS_10 1 1 rfl).trans (eu1_1))) (show inr (x10_3) by omega) (show inr (a1) by omega) (show 0 ≤ (u1_1) ∧ (u1_1) ≤ (n2) ∧ (n2) ≤ 65536 ∧ (u1_1) ≤ 16384 by omega) (show (u0_12) ≤ (u1_1) by omega) (show 0 ≤ (x10_3) ∧ (x10_3) ≤ (a1) ∧ (a1) ≤ 16384 by omega) (fun z14 σ14 F14ₚ A14ₚ Hₚ Oₚ hS14 hA14 pz14_0 pz14_1 pz14_2 => ⟨rfl, ?_⟩))
          refine v_back (c := c) (s := s) H (show vsub V129 V128 [0, 1, 2] = true by decide +kernel) Hₚ Oₚ (fun F14 A14 H Oₚ eF14 eA14 => ?_)
          have O := OUT_trans O Oₚ
          -- Finder.common
          refine Ew_of (pcₚ := 38) (fun _ => x_istore rfl) ?_
          refine Ew_of (pcₚ := 40) (fun _ => x_iload rfl rk_s) ?_
          refine Ew_of (pcₚ := 41) (fun _ => x_iload_n rfl (rk_o (l10_2) rfl rfl)) ?_
          refine w_icmplt (t := 59) rfl rfl (show inr (z14) by omega) (show inr (a2) by omega) (fun b15 => ?_) (fun b15 => ?_)
          · refine Ew_of (pcₚ := 60) (fun _ => x_aload_n rfl (rk_o (l10_0) rfl rfl)) ?_
            refine v_g H (o := 0) (v := .ref (D 3)) rfl rfl rfl rfl rfl (vrf (((((show F14 0 8 = F_10 0 8 from (eF14 0 8).trans (hS14 0 8 rfl))).trans (hS_10 0 8 rfl))).trans (pf3))) ?_
            refine Ew_of (pcₚ := 64) (fun _ => x_iload_n rfl (rk_o (l10_3) rfl rfl)) ?_
            refine v_lI H (o := 3) rfl rfl rfl rfl (n := n3) (en3) (show 0 ≤ x10_3 ∧ x10_3 < n3 by omega) (fun v16 ev16 qv16 => ?_)
            have ev16 : (w3) (x10_3) = v16 := (congrFun (((show A14 3 = A_10 3 from (eA14 3))).trans ((funext (hA_10 3 rfl)).trans (ew3))) (x10_3)).symm.trans ev16
            have hb6 := hbk ((x10_3)) (by omega) (by omega)
            rw [ev16] at hb6
            have hb7 : -1 ≤ (v16) ∧ (v16) < (x10_3) := ⟨hb6.1, hb6.2.1⟩
            clear hb6
            refine Ew_of (pcₚ := 66) (fun _ => x_istore_n rfl) ?_
            refine Ew_of (pcₚ := 69) (fun _ => x_iinc (len := 3) rfl (rk_o (rk_o (l10_4) rfl rfl) rfl rfl)) ?_
            refine Ew_of (pcₚ := 10) (fun _ => x_goto rfl rfl) ?_
            exact ih10 _ (by omega) _ _ _ _ (v16) ((x10_4 + 1)) (rk_o (rk_o (rk_o (l10_0) rfl rfl) rfl rfl) rfl rfl) (rk_o (rk_o (rk_o (l10_1) rfl rfl) rfl rfl) rfl rfl) (rk_o (rk_o (rk_o (l10_2) rfl rfl) rfl rfl) rfl rfl) (rk_o (rk_s) rfl rfl) (rk_s) H O (SF_trans (hS_10) (SF_glu (ι := [0, 1, 2]) hS14 eF14 (by decide +kernel)) (any_sub (lₚ := []) rfl)) (SA_trans (hA_10) (SA_glu (ι := [0, 1, 2]) hA14 eA14 (by decide +kernel)) (any_subA (lₚ := []) rfl))     (show inr (v16) by omega) (show inr ((x10_4 + 1)) by omega) (show (0) ≤ ((x10_4 + 1)) by omega) (show ((x10_4 + 1)) ≤ (0) ∨ ((x10_4 + 1)) ≤ ((a1)) by omega) (show -1 ≤ (v16) ∧ (v16) < (a1) by omega) rfl
          · refine Ew_of (pcₚ := 45) (fun _ => x_aload_n rfl (rk_o (l10_0) rfl rfl)) ?_
            refine Ew_of (pcₚ := 47) (fun _ => x_iload rfl rk_s) ?_
            refine v_p H (o := 0) (z := z14) (v := I (z14)) rfl rfl rfl rfl rfl rfl rfl rfl (show (-2147483648 : Int) ≤ z14 ∧ z14 ≤ 2147483647 by omega) (fun σ H Oₚ => ?_)
            have O := OUT_trans O Oₚ
            refine Ew_of (pcₚ := 51) (fun _ => x_aload_n rfl (rk_o (l10_0) rfl rfl)) ?_
            refine Ew_of (pcₚ := 52) (fun _ => x_iload_n rfl (rk_o (l10_1) rfl rfl)) ?_
            refine Ew_of (pcₚ := 53) (fun _ => x_iload_n rfl (rk_o (l10_3) rfl rfl)) ?_
            refine w_isub rfl ?_
            refine v_p H (o := 0) (z := (a1 - x10_3)) (v := I ((a1 - x10_3))) rfl rfl rfl rfl rfl rfl rfl rfl (show (-2147483648 : Int) ≤ (a1 - x10_3) ∧ (a1 - x10_3) ≤ 2147483647 by omega) (fun σ H Oₚ => ?_)
            have O := OUT_trans O Oₚ
            refine Ew_of (pcₚ := 58) (fun _ => x_iconst rfl) ?_
            exact w_ireturn rfl (k (1) _ _ _ H O (SF_upd (SF_upd (SF_trans (SF_trans (SF_refl) hS_10 (any_sub rfl)) (SF_glu (ι := [0, 1, 2]) hS14 eF14 (by decide +kernel)) (any_sub (lₚ := []) rfl)) rfl) rfl) (SA_trans (SA_trans (SA_refl) hA_10 (any_subA rfl)) (SA_glu (ι := [0, 1, 2]) hA14 eA14 (by decide +kernel)) (any_subA (lₚ := []) rfl)) (z14) (rfl) ((a1 - x10_3)) (rfl) (show (1) = 0 ∨ (1) = 1 by omega) (show (1) = 1 → a2 ≤ (z14) ∧ a1 + (z14) ≤ (u0_12) ∧ 1 ≤ ((a1 - x10_3)) ∧ ((a1 - x10_3)) ≤ a1 by omega))
abbrev V130 : vV := [(0, 5, [(4, 0), (4, 0), (4, 0), (4, 0), (0, 0), (0, 0), (0, 0), (4, 0), (4, 0), (0, 0), (0, 0), (0, 0), (0, 0), (0, 0), (0, 0), (0, 0), (0, 0), (0, 0), (0, 0)]), (0, 7, [(4, 0), (0, 0), (1, 0), (0, 0), (0, 0)]), (1, 0, []), (1, 1, [])]
/-- Finder.longest: this, this.data, this.data.bytes, this.back -/
theorem C130 {σE : rS} {D N : Nat → Nat} {F : hF} {A : hA} {d c s : Nat} {Q : wQ} (H : HW V130 σE D N F A) {a1 : Int} (pf1 : F 0 0 = (D 1 : Int)) (pf2 : F 1 0 = (D 2 : Int)) (pf3 : F 0 8 = (D 3 : Int)) (n2 : Int) (en2 : (N 2 : Int) = n2) (n3 : Int) (en3 : (N 3 : Int) = n3) (u0_6 : Int) (eu0_6 : F 0 6 = u0_6) (u0_10 : Int) (eu0_10 : F 0 10 = u0_10) (u0_12 : Int) (eu0_12 : F 0 12 = u0_12) (u0_14 : Int) (eu0_14 : F 0 14 = u0_14) (u0_15 : Int) (eu0_15 : F 0 15 = u0_15) (u0_16 : Int) (eu0_16 : F 0 16 = u0_16) (u0_17 : Int) (eu0_17 : F 0 17 = u0_17) (u0_18 : Int) (eu0_18 : F 0 18 = u0_18) (u1_1 : Int) (eu1_1 : F 1 1 = u1_1) (w2 : Int → Int) (ew2 : A 2 = w2) (w3 : Int → Int) (ew3 : A 3 = w3) (h0 : inr (a1)) (h1 : 0 ≤ (u1_1) ∧ (u1_1) ≤ (n2) ∧ (n2) ≤ 65536 ∧ (u1_1) ≤ 16384) (h2 : (u0_12) ≤ (u1_1)) (h3 : 1 ≤ (u0_10) ∧ (u0_10) ≤ 8) (h4 : 0 ≤ (a1) ∧ (a1) < (u0_6)) (h5 : (u0_6) ≤ (n3) ∧ (n3) ≤ 16384) (h6 : BKI ((w2)) ((w3)) ((u0_10)) ((u0_6))) (h7 : (u0_16) = -1 ∨ (u0_17) = 0 ∨ (u0_10) ≤ (u0_17) ∧ (u0_16) + (u0_17) ≤ (u0_12) ∧ 1 ≤ (u0_18) ∧ (u0_18) ≤ (u0_16)) (k : ∀ (σ : rS) (Fₚ : hF) (Aₚ : hA), HW V130 σ D N Fₚ Aₚ → OUT (V130).length D N σE c s D N σ c s → SF [(0, 14), (0, 15)] F Fₚ → SA [] A Aₚ → ∀ y0_14 : Int, Fₚ 0 14 = y0_14 → ∀ y0_15 : Int, Fₚ 0 15 = y0_15 → ((y0_14) = 0 ∨ (u0_10) ≤ (y0_14) ∧ (a1) + (y0_14) ≤ (u0_12) ∧ 1 ≤ (y0_15) ∧ (y0_15) ≤ (a1)) → Q none σ c s) : Ew 130 (d + 1) 0 (rargs 0 [.ref (D 0), I a1]) [] σE c s Q := by
  have O := OUT_refl (n := (V130).length) (D := D) (N := N) (σ := σE) (c := c) (s := s)
  have HE := H
  have r1 : (-2147483648 : Int) ≤ u0_6 ∧ u0_6 ≤ 2147483647 := by have h1 : (-2147483648 : Int) ≤ F 0 6 ∧ F 0 6 ≤ 2147483647 := H.krg 0 6 (by decide); rw [show F 0 6 = u0_6 from (eu0_6)] at h1; exact h1
  have r2 : (-2147483648 : Int) ≤ u0_10 ∧ u0_10 ≤ 2147483647 := by have h1 : (-2147483648 : Int) ≤ F 0 10 ∧ F 0 10 ≤ 2147483647 := H.krg 0 10 (by decide); rw [show F 0 10 = u0_10 from (eu0_10)] at h1; exact h1
  have r3 : (-2147483648 : Int) ≤ u0_12 ∧ u0_12 ≤ 2147483647 := by have h1 : (-2147483648 : Int) ≤ F 0 12 ∧ F 0 12 ≤ 2147483647 := H.krg 0 12 (by decide); rw [show F 0 12 = u0_12 from (eu0_12)] at h1; exact h1
  have r4 : (-2147483648 : Int) ≤ u0_14 ∧ u0_14 ≤ 2147483647 := by have h1 : (-2147483648 : Int) ≤ F 0 14 ∧ F 0 14 ≤ 2147483647 := H.krg 0 14 (by decide); rw [show F 0 14 = u0_14 from (eu0_14)] at h1; exact h1
  have r5 : (-2147483648 : Int) ≤ u0_15 ∧ u0_15 ≤ 2147483647 := by have h1 : (-2147483648 : Int) ≤ F 0 15 ∧ F 0 15 ≤ 2147483647 := H.krg 0 15 (by decide); rw [show F 0 15 = u0_15 from (eu0_15)] at h1; exact h1
  have r6 : (-2147483648 : Int) ≤ u0_16 ∧ u0_16 ≤ 2147483647 := by have h1 : (-2147483648 : Int) ≤ F 0 16 ∧ F 0 16 ≤ 2147483647 := H.krg 0 16 (by decide); rw [show F 0 16 = u0_16 from (eu0_16)] at h1; exact h1
  have r7 : (-2147483648 : Int) ≤ u0_17 ∧ u0_17 ≤ 2147483647 := by have h1 : (-2147483648 : Int) ≤ F 0 17 ∧ F 0 17 ≤ 2147483647 := H.krg 0 17 (by decide); rw [show F 0 17 = u0_17 from (eu0_17)] at h1; exact h1
  have r8 : (-2147483648 : Int) ≤ u0_18 ∧ u0_18 ≤ 2147483647 := by have h1 : (-2147483648 : Int) ≤ F 0 18 ∧ F 0 18 ≤ 2147483647 := H.krg 0 18 (by decide); rw [show F 0 18 = u0_18 from (eu0_18)] at h1; exact h1
  have r9 : (-2147483648 : Int) ≤ u1_1 ∧ u1_1 ≤ 2147483647 := by have h1 : (-2147483648 : Int) ≤ F 1 1 ∧ F 1 1 ≤ 2147483647 := H.krg 1 1 (by decide); rw [show F 1 1 = u1_1 from (eu1_1)] at h1; exact h1
  have r10 : (0 : Int) ≤ n2 ∧ n2 ≤ 1000000 := by have h1 := H.nle 2 (by decide); have h2 : (N 2 : Int) = n2 := en2; omega
  have r11 : (0 : Int) ≤ n3 ∧ n3 ≤ 1000000 := by have h1 := H.nle 3 (by decide); have h2 : (N 3 : Int) = n3 := en3; omega
  have hbk : BKI ((w2)) ((w3)) ((u0_10)) ((u0_6)) := by assumption
  refine Ew_of (pcₚ := 1) (fun _ => x_iload_n rfl rfl) ?_
  refine Ew_of (pcₚ := 2) (fun _ => x_aload_n rfl rfl) ?_
  refine v_g H (o := 0) (v := I (u0_16)) rfl rfl rfl rfl rfl (congrArg (fun z : Int => I z) ((eu0_16) : F 0 16 = u0_16)) ?_
  refine w_icmpne (t := 25) rfl rfl (show inr (a1) by omega) (show inr (u0_16) by omega) (fun b12 => ?_) (fun b12 => ?_)
  · refine Ew_of (pcₚ := 26) (fun _ => x_aload_n rfl rfl) ?_
    refine Ew_of (pcₚ := 27) (fun _ => x_iconst rfl) ?_
    refine v_p H (o := 0) (z := 0) (v := I (0)) rfl rfl rfl rfl rfl rfl rfl rfl (show (-2147483648 : Int) ≤ 0 ∧ 0 ≤ 2147483647 by omega) (fun σ H Oₚ => ?_)
    have O := OUT_trans O Oₚ
    refine Ew_of (pcₚ := 31) (fun _ => x_aload_n rfl rfl) ?_
    refine Ew_of (pcₚ := 32) (fun _ => x_iconst rfl) ?_
    refine v_p H (o := 0) (z := 0) (v := I (0)) rfl rfl rfl rfl rfl rfl rfl rfl (show (-2147483648 : Int) ≤ 0 ∧ 0 ≤ 2147483647 by omega) (fun σ H Oₚ => ?_)
    have O := OUT_trans O Oₚ
    refine Ew_of (pcₚ := 36) (fun _ => x_aload_n rfl rfl) ?_
    refine v_g H (o := 0) (v := .ref (D 3)) rfl rfl rfl rfl rfl (vrf (pf3)) ?_
    refine Ew_of (pcₚ := 40) (fun _ => x_iload_n rfl rfl) ?_
    refine v_lI H (o := 3) rfl rfl rfl rfl (n := n3) (en3) (show 0 ≤ a1 ∧ a1 < n3 by omega) (fun v13 ev13 qv13 => ?_)
    have ev13 : (w3) (a1) = v13 := (congrFun (ew3) (a1)).symm.trans ev13
    have hb6 := hbk ((a1)) (by omega) (by omega)
    rw [ev13] at hb6
    have hb7 : -1 ≤ (v13) ∧ (v13) < (a1) := ⟨hb6.1, hb6.2.1⟩
    clear hb6
    refine Ew_of (pcₚ := 42) (fun _ => x_istore_n rfl) ?_
    refine Ew_of (pcₚ := 43) (fun _ => x_iconst rfl) ?_
    refine Ew_of (pcₚ := 44) (fun _ => x_istore_n rfl) ?_
    suffices hl44 : ∀ (m : Nat), ∀ (ls : rO) (σ : rS) (F_44 : hF) (A_44 : hA) (x44_2 : Int) (x44_3 : Int), rlook ls 0 = some (.ref (D 0)) → rlook ls 1 = some (I (a1)) → rlook ls 2 = some (I (x44_2)) → rlook ls 3 = some (I (x44_3)) → HW V130 σ D N F_44 A_44 → OUT (V130).length D N σE c s D N σ c s → SF [(0, 14), (0, 15)] (updF (updF F 0 14 (0)) 0 15 (0)) F_44 → SA [] A A_44 → ∀ y44_0_14 : Int, F_44 0 14 = y44_0_14 → ∀ y44_0_15 : Int, F_44 0 15 = y44_0_15 → (inr (x44_2)) → (inr (x44_3)) → ((0) ≤ (x44_3)) → ((x44_3) ≤ (0) ∨ (x44_3) ≤ ((a1))) → (-1 ≤ (x44_2) ∧ (x44_2) < (a1)) → ((y44_0_14) = 0 ∨ (u0_10) ≤ (y44_0_14) ∧ (a1) + (y44_0_14) ≤ (u0_12) ∧ 1 ≤ (y44_0_15) ∧ (y44_0_15) ≤ (a1)) → ((y44_0_14) ≤ 16384) → (((a1)) - (x44_3)).toNat = m → Ew 130 (d + 1) 44 ls [] σ c s Q from
      hl44 _ _ _ _ _ (v13) (0) (rk_o (rk_o (rfl) rfl rfl) rfl rfl) (rk_o (rk_o (rfl) rfl rfl) rfl rfl) (rk_o (rk_s) rfl rfl) (rk_s) H O (SF_refl) (SA_refl)   (0) (rfl) (0) (rfl)  (show inr (v13) by omega) (show inr (0) by omega) (show (0) ≤ (0) by omega) (show (0) ≤ (0) ∨ (0) ≤ ((a1)) by omega) (show -1 ≤ (v13) ∧ (v13) < (a1) by omega) (show (0) = 0 ∨ (u0_10) ≤ (0) ∧ (a1) + (0) ≤ (u0_12) ∧ 1 ≤ (0) ∧ (0) ≤ (a1) by omega) (show (0) ≤ 16384 by omega) rfl
    as_aux_lemma =>
    intro m
    induction m using Nat.strongRecOn with
    | _ m ih44 =>
      intro ls σ F_44 A_44 x44_2 x44_3 l44_0 l44_1 l44_2 l44_3 H O hS_44 hA_44   y44_0_14 ey44_0_14 y44_0_15 ey44_0_15  j44_0 j44_1 j44_2 j44_3 j44_4 j44_5 j44_6 hm44
      have r14 : (-2147483648 : Int) ≤ y44_0_14 ∧ y44_0_14 ≤ 2147483647 := by have h1 : (-2147483648 : Int) ≤ F_44 0 14 ∧ F_44 0 14 ≤ 2147483647 := H.krg 0 14 (by decide); rw [show F_44 0 14 = y44_0_14 from (ey44_0_14)] at h1; exact h1
      have r15 : (-2147483648 : Int) ≤ y44_0_15 ∧ y44_0_15 ≤ 2147483647 := by have h1 : (-2147483648 : Int) ≤ F_44 0 15 ∧ F_44 0 15 ≤ 2147483647 := H.krg 0 15 (by decide); rw [show F_44 0 15 = y44_0_15 from (ey44_0_15)] at h1; exact h1
      refine Ew_of (pcₚ := 45) (fun _ => x_iload_n rfl l44_3) ?_
      refine Ew_of (pcₚ := 46) (fun _ => x_iload_n rfl l44_1) ?_
      refine w_icmpge (t := 159) rfl rfl (show inr (x44_3) by omega) (show inr (a1) by omega) (fun b16 => ?_) (fun b16 => ?_)
      · exact w_ret rfl (k _ _ _ H O (SF_trans (SF_upd (SF_upd (SF_refl) rfl) rfl) hS_44 (any_sub rfl)) (SA_trans (SA_refl) hA_44 (any_subA rfl)) (y44_0_14) ((ey44_0_14)) (y44_0_15) ((ey44_0_15)) (show (y44_0_14) = 0 ∨ (u0_10) ≤ (y44_0_14) ∧ a1 + (y44_0_14) ≤ (u0_12) ∧ 1 ≤ (y44_0_15) ∧ (y44_0_15) ≤ a1 by omega))
      · refine Ew_of (pcₚ := 50) (fun _ => x_iload_n rfl l44_2) ?_
        refine w_iflt (t := 159) rfl rfl (show inr (x44_2) by omega) (fun b17 => ?_) (fun b17 => ?_)
        · exact w_ret rfl (k _ _ _ H O (SF_trans (SF_upd (SF_upd (SF_refl) rfl) rfl) hS_44 (any_sub rfl)) (SA_trans (SA_refl) hA_44 (any_subA rfl)) (y44_0_14) ((ey44_0_14)) (y44_0_15) ((ey44_0_15)) (show (y44_0_14) = 0 ∨ (u0_10) ≤ (y44_0_14) ∧ a1 + (y44_0_14) ≤ (u0_12) ∧ 1 ≤ (y44_0_15) ∧ (y44_0_15) ≤ a1 by omega))
        · refine Ew_of (pcₚ := 54) (fun _ => x_iload_n rfl l44_1) ?_
          refine Ew_of (pcₚ := 55) (fun _ => x_iload_n rfl l44_2) ?_
          refine w_isub rfl ?_
          refine Ew_of (pcₚ := 57) (fun _ => x_aload_n rfl l44_0) ?_
          have r18 : (-2147483648 : Int) ≤ F 0 11 ∧ F 0 11 ≤ 2147483647 := by have h1 : (-2147483648 : Int) ≤ F_44 0 11 ∧ F_44 0 11 ≤ 2147483647 := H.krg 0 11 (by decide); rw [show F_44 0 11 = F 0 11 from (hS_44 0 11 rfl)] at h1; exact h1
          refine v_g H (o := 0) (v := I (F 0 11)) rfl rfl rfl rfl rfl (congrArg (fun z : Int => I z) ((hS_44 0 11 rfl) : F_44 0 11 = F 0 11)) ?_
          refine w_icmpgt (t := 159) rfl rfl (show inr ((a1 - x44_2)) by omega) (show inr (F 0 11) by omega) (fun b19 => ?_) (fun b19 => ?_)
          · exact w_ret rfl (k _ _ _ H O (SF_trans (SF_upd (SF_upd (SF_refl) rfl) rfl) hS_44 (any_sub rfl)) (SA_trans (SA_refl) hA_44 (any_subA rfl)) (y44_0_14) ((ey44_0_14)) (y44_0_15) ((ey44_0_15)) (show (y44_0_14) = 0 ∨ (u0_10) ≤ (y44_0_14) ∧ a1 + (y44_0_14) ≤ (u0_12) ∧ 1 ≤ (y44_0_15) ∧ (y44_0_15) ≤ a1 by omega))
          · refine Ew_of (pcₚ := 64) (fun _ => x_iload_n rfl l44_1) ?_
            refine Ew_of (pcₚ := 65) (fun _ => x_aload_n rfl l44_0) ?_
            refine v_g H (o := 0) (v := I (y44_0_14)) rfl rfl rfl rfl rfl (congrArg (fun z : Int => I z) ((ey44_0_14) : F_44 0 14 = y44_0_14)) ?_
            refine w_iadd rfl ?_
            refine Ew_of (pcₚ := 70) (fun _ => x_aload_n rfl l44_0) ?_
            refine v_g H (o := 0) (v := I (u0_12)) rfl rfl rfl rfl rfl (congrArg (fun z : Int => I z) (((hS_44 0 12 rfl).trans (eu0_12)) : F_44 0 12 = u0_12)) ?_
            refine w_icmpge (t := 159) rfl rfl (show inr ((a1 + y44_0_14)) by omega) (show inr (u0_12) by omega) (fun b20 => ?_) (fun b20 => ?_)
            · exact w_ret rfl (k _ _ _ H O (SF_trans (SF_upd (SF_upd (SF_refl) rfl) rfl) hS_44 (any_sub rfl)) (SA_trans (SA_refl) hA_44 (any_subA rfl)) (y44_0_14) ((ey44_0_14)) (y44_0_15) ((ey44_0_15)) (show (y44_0_14) = 0 ∨ (u0_10) ≤ (y44_0_14) ∧ a1 + (y44_0_14) ≤ (u0_12) ∧ 1 ≤ (y44_0_15) ∧ (y44_0_15) ≤ a1 by omega))
            · refine Ew_of (pcₚ := 77) (fun _ => x_aload_n rfl l44_0) ?_
              refine v_g H (o := 0) (v := .ref (D 1)) rfl rfl rfl rfl rfl (vrf (((hS_44 0 0 rfl)).trans (pf1))) ?_
              refine v_g H (o := 1) (v := .ref (D 2)) rfl rfl rfl rfl rfl (vrf (((hS_44 1 0 rfl)).trans (pf2))) ?_
              refine Ew_of (pcₚ := 84) (fun _ => x_iload_n rfl l44_2) ?_
              refine Ew_of (pcₚ := 85) (fun _ => x_aload_n rfl l44_0) ?_
              refine v_g H (o := 0) (v := I (y44_0_14)) rfl rfl rfl rfl rfl (congrArg (fun z : Int => I z) ((ey44_0_14) : F_44 0 14 = y44_0_14)) ?_
              refine w_iadd rfl ?_
              refine v_lB H (o := 2) rfl rfl rfl rfl (n := n2) (en2) (show 0 ≤ (x44_2 + y44_0_14) ∧ (x44_2 + y44_0_14) < n2 by omega) (fun v21 ev21 qv21 => ?_)
              have ev21 : (w2) ((x44_2 + y44_0_14)) = v21 := (congrFun ((funext (hA_44 2 rfl)).trans (ew2)) ((x44_2 + y44_0_14))).symm.trans ev21
              refine Ew_of (pcₚ := 91) (fun _ => x_aload_n rfl l44_0) ?_
              refine v_g H (o := 0) (v := .ref (D 1)) rfl rfl rfl rfl rfl (vrf (((hS_44 0 0 rfl)).trans (pf1))) ?_
              refine v_g H (o := 1) (v := .ref (D 2)) rfl rfl rfl rfl rfl (vrf (((hS_44 1 0 rfl)).trans (pf2))) ?_
              refine Ew_of (pcₚ := 98) (fun _ => x_iload_n rfl l44_1) ?_
              refine Ew_of (pcₚ := 99) (fun _ => x_aload_n rfl l44_0) ?_
              refine v_g H (o := 0) (v := I (y44_0_14)) rfl rfl rfl rfl rfl (congrArg (fun z : Int => I z) ((ey44_0_14) : F_44 0 14 = y44_0_14)) ?_
              refine w_iadd rfl ?_
              refine v_lB H (o := 2) rfl rfl rfl rfl (n := n2) (en2) (show 0 ≤ (a1 + y44_0_14) ∧ (a1 + y44_0_14) < n2 by omega) (fun v22 ev22 qv22 => ?_)
              have ev22 : (w2) ((a1 + y44_0_14)) = v22 := (congrFun ((funext (hA_44 2 rfl)).trans (ew2)) ((a1 + y44_0_14))).symm.trans ev22
              refine w_icmpne (t := 146) rfl rfl (show inr (v21) by omega) (show inr (v22) by omega) (fun b23 => ?_) (fun b23 => ?_)
              · refine Ew_of (pcₚ := 147) (fun _ => x_aload_n rfl l44_0) ?_
                refine v_g H (o := 0) (v := .ref (D 3)) rfl rfl rfl rfl rfl (vrf (((hS_44 0 8 rfl)).trans (pf3))) ?_
                refine Ew_of (pcₚ := 151) (fun _ => x_iload_n rfl l44_2) ?_
                refine v_lI H (o := 3) rfl rfl rfl rfl (n := n3) (en3) (show 0 ≤ x44_2 ∧ x44_2 < n3 by omega) (fun v24 ev24 qv24 => ?_)
                have ev24 : (w3) (x44_2) = v24 := (congrFun ((funext (hA_44 3 rfl)).trans (ew3)) (x44_2)).symm.trans ev24
                have hb6 := hbk ((x44_2)) (by omega) (by omega)
                rw [ev24] at hb6
                have hb7 : -1 ≤ (v24) ∧ (v24) < (x44_2) := ⟨hb6.1, hb6.2.1⟩
                clear hb6
                refine Ew_of (pcₚ := 153) (fun _ => x_istore_n rfl) ?_
                refine Ew_of (pcₚ := 156) (fun _ => x_iinc (len := 3) rfl (rk_o (l44_3) rfl rfl)) ?_
                refine Ew_of (pcₚ := 44) (fun _ => x_goto rfl rfl) ?_
                exact ih44 _ (by omega) _ _ _ _ (v24) ((x44_3 + 1)) (rk_o (rk_o (l44_0) rfl rfl) rfl rfl) (rk_o (rk_o (l44_1) rfl rfl) rfl rfl) (rk_o (rk_s) rfl rfl) (rk_s) H O (hS_44) (hA_44)   (y44_0_14) ((ey44_0_14)) (y44_0_15) ((ey44_0_15))  (show inr (v24) by omega) (show inr ((x44_3 + 1)) by omega) (show (0) ≤ ((x44_3 + 1)) by omega) (show ((x44_3 + 1)) ≤ (0) ∨ ((x44_3 + 1)) ≤ ((a1)) by omega) (show -1 ≤ (v24) ∧ (v24) < (a1) by omega) (show (y44_0_14) = 0 ∨ (u0_10) ≤ (y44_0_14) ∧ (a1) + (y44_0_14) ≤ (u0_12) ∧ 1 ≤ (y44_0_15) ∧ (y44_0_15) ≤ (a1) by omega) (show (y44_0_14) ≤ 16384 by omega) rfl
              · refine Ew_of (pcₚ := 108) (fun _ => x_aload_n rfl l44_0) ?_
                refine Ew_of (pcₚ := 109) (fun _ => x_iload_n rfl l44_2) ?_
                refine Ew_of (pcₚ := 110) (fun _ => x_iload_n rfl l44_1) ?_
                refine v_inv H (o := 0) rfl rfl rfl rfl rfl rfl (by rfl) (C128 (D := pul [0, 1, 2] D) (N := pul [0, 1, 2] N) (HW_sub H (VS_of (show vsub V130 V128 [0, 1, 2] = true by decide +kernel))) (((hS_44 0 0 rfl)).trans (pf1)) (((hS_44 1 0 rfl)).trans (pf2)) (n2) (en2) (u0_12) (((hS_44 0 12 rfl).trans (eu0_12))) (u1_1) (((hS_44 1 1 rfl).trans (eu1_1))) (show inr (x44_2) by omega) (show inr (a1) by omega) (show 0 ≤ (u1_1) ∧ (u1_1) ≤ (n2) ∧ (n2) ≤ 65536 ∧ (u1_1) ≤ 16384 by omega) (show (u0_12) ≤ (u1_1) by omega) (show 0 ≤ (x44_2) ∧ (x44_2) ≤ (a1) ∧ (a1) ≤ 16384 by omega) (fun z25 σ25 F25ₚ A25ₚ Hₚ Oₚ hS25 hA25 pz25_0 pz25_1 pz25_2 => ⟨rfl, ?_⟩))
                refine v_back (c := c) (s := s) H (show vsub V130 V128 [0, 1, 2] = true by decide +kernel) Hₚ Oₚ (fun F25 A25 H Oₚ eF25 eA25 => ?_)
                have O := OUT_trans O Oₚ
                -- Finder.common
                refine Ew_of (pcₚ := 115) (fun _ => x_istore rfl) ?_
                refine Ew_of (pcₚ := 117) (fun _ => x_iload rfl rk_s) ?_
                refine Ew_of (pcₚ := 118) (fun _ => x_aload_n rfl (rk_o (l44_0) rfl rfl)) ?_
                refine v_g H (o := 0) (v := I (u0_10)) rfl rfl rfl rfl rfl (congrArg (fun z : Int => I z) (((((show F25 0 10 = F_44 0 10 from (eF25 0 10).trans (hS25 0 10 rfl))).trans (hS_44 0 10 rfl)).trans (eu0_10)) : F25 0 10 = u0_10)) ?_
                refine w_icmplt (t := 146) rfl rfl (show inr (z25) by omega) (show inr (u0_10) by omega) (fun b26 => ?_) (fun b26 => ?_)
                · refine Ew_of (pcₚ := 147) (fun _ => x_aload_n rfl (rk_o (l44_0) rfl rfl)) ?_
                  refine v_g H (o := 0) (v := .ref (D 3)) rfl rfl rfl rfl rfl (vrf (((((show F25 0 8 = F_44 0 8 from (eF25 0 8).trans (hS25 0 8 rfl))).trans (hS_44 0 8 rfl))).trans (pf3))) ?_
                  refine Ew_of (pcₚ := 151) (fun _ => x_iload_n rfl (rk_o (l44_2) rfl rfl)) ?_
                  refine v_lI H (o := 3) rfl rfl rfl rfl (n := n3) (en3) (show 0 ≤ x44_2 ∧ x44_2 < n3 by omega) (fun v27 ev27 qv27 => ?_)
                  have ev27 : (w3) (x44_2) = v27 := (congrFun (((show A25 3 = A_44 3 from (eA25 3))).trans ((funext (hA_44 3 rfl)).trans (ew3))) (x44_2)).symm.trans ev27
                  have hb6 := hbk ((x44_2)) (by omega) (by omega)
                  rw [ev27] at hb6
                  have hb7 : -1 ≤ (v27) ∧ (v27) < (x44_2) := ⟨hb6.1, hb6.2.1⟩
                  clear hb6
                  refine Ew_of (pcₚ := 153) (fun _ => x_istore_n rfl) ?_
                  refine Ew_of (pcₚ := 156) (fun _ => x_iinc (len := 3) rfl (rk_o (rk_o (l44_3) rfl rfl) rfl rfl)) ?_
                  refine Ew_of (pcₚ := 44) (fun _ => x_goto rfl rfl) ?_
                  exact ih44 _ (by omega) _ _ _ _ (v27) ((x44_3 + 1)) (rk_o (rk_o (rk_o (l44_0) rfl rfl) rfl rfl) rfl rfl) (rk_o (rk_o (rk_o (l44_1) rfl rfl) rfl rfl) rfl rfl) (rk_o (rk_s) rfl rfl) (rk_s) H O (SF_trans (hS_44) (SF_glu (ι := [0, 1, 2]) hS25 eF25 (by decide +kernel)) (any_sub (lₚ := []) rfl)) (SA_trans (hA_44) (SA_glu (ι := [0, 1, 2]) hA25 eA25 (by decide +kernel)) (any_subA (lₚ := []) rfl))   (y44_0_14) ((((show F25 0 14 = F_44 0 14 from (eF25 0 14).trans (hS25 0 14 rfl))).trans (ey44_0_14))) (y44_0_15) ((((show F25 0 15 = F_44 0 15 from (eF25 0 15).trans (hS25 0 15 rfl))).trans (ey44_0_15)))  (show inr (v27) by omega) (show inr ((x44_3 + 1)) by omega) (show (0) ≤ ((x44_3 + 1)) by omega) (show ((x44_3 + 1)) ≤ (0) ∨ ((x44_3 + 1)) ≤ ((a1)) by omega) (show -1 ≤ (v27) ∧ (v27) < (a1) by omega) (show (y44_0_14) = 0 ∨ (u0_10) ≤ (y44_0_14) ∧ (a1) + (y44_0_14) ≤ (u0_12) ∧ 1 ≤ (y44_0_15) ∧ (y44_0_15) ≤ (a1) by omega) (show (y44_0_14) ≤ 16384 by omega) rfl
                · refine Ew_of (pcₚ := 126) (fun _ => x_iload rfl rk_s) ?_
                  refine Ew_of (pcₚ := 127) (fun _ => x_aload_n rfl (rk_o (l44_0) rfl rfl)) ?_
                  refine v_g H (o := 0) (v := I (y44_0_14)) rfl rfl rfl rfl rfl (congrArg (fun z : Int => I z) ((((show F25 0 14 = F_44 0 14 from (eF25 0 14).trans (hS25 0 14 rfl))).trans (ey44_0_14)) : F25 0 14 = y44_0_14)) ?_
                  refine w_icmple (t := 146) rfl rfl (show inr (z25) by omega) (show inr (y44_0_14) by omega) (fun b28 => ?_) (fun b28 => ?_)
                  · refine Ew_of (pcₚ := 147) (fun _ => x_aload_n rfl (rk_o (l44_0) rfl rfl)) ?_
                    refine v_g H (o := 0) (v := .ref (D 3)) rfl rfl rfl rfl rfl (vrf (((((show F25 0 8 = F_44 0 8 from (eF25 0 8).trans (hS25 0 8 rfl))).trans (hS_44 0 8 rfl))).trans (pf3))) ?_
                    refine Ew_of (pcₚ := 151) (fun _ => x_iload_n rfl (rk_o (l44_2) rfl rfl)) ?_
                    refine v_lI H (o := 3) rfl rfl rfl rfl (n := n3) (en3) (show 0 ≤ x44_2 ∧ x44_2 < n3 by omega) (fun v29 ev29 qv29 => ?_)
                    have ev29 : (w3) (x44_2) = v29 := (congrFun (((show A25 3 = A_44 3 from (eA25 3))).trans ((funext (hA_44 3 rfl)).trans (ew3))) (x44_2)).symm.trans ev29
                    have hb6 := hbk ((x44_2)) (by omega) (by omega)
                    rw [ev29] at hb6
                    have hb7 : -1 ≤ (v29) ∧ (v29) < (x44_2) := ⟨hb6.1, hb6.2.1⟩
                    clear hb6
                    refine Ew_of (pcₚ := 153) (fun _ => x_istore_n rfl) ?_
                    refine Ew_of (pcₚ := 156) (fun _ => x_iinc (len := 3) rfl (rk_o (rk_o (l44_3) rfl rfl) rfl rfl)) ?_
                    refine Ew_of (pcₚ := 44) (fun _ => x_goto rfl rfl) ?_
                    exact ih44 _ (by omega) _ _ _ _ (v29) ((x44_3 + 1)) (rk_o (rk_o (rk_o (l44_0) rfl rfl) rfl rfl) rfl rfl) (rk_o (rk_o (rk_o (l44_1) rfl rfl) rfl rfl) rfl rfl) (rk_o (rk_s) rfl rfl) (rk_s) H O (SF_trans (hS_44) (SF_glu (ι := [0, 1, 2]) hS25 eF25 (by decide +kernel)) (any_sub (lₚ := []) rfl)) (SA_trans (hA_44) (SA_glu (ι := [0, 1, 2]) hA25 eA25 (by decide +kernel)) (any_subA (lₚ := []) rfl))   (y44_0_14) ((((show F25 0 14 = F_44 0 14 from (eF25 0 14).trans (hS25 0 14 rfl))).trans (ey44_0_14))) (y44_0_15) ((((show F25 0 15 = F_44 0 15 from (eF25 0 15).trans (hS25 0 15 rfl))).trans (ey44_0_15)))  (show inr (v29) by omega) (show inr ((x44_3 + 1)) by omega) (show (0) ≤ ((x44_3 + 1)) by omega) (show ((x44_3 + 1)) ≤ (0) ∨ ((x44_3 + 1)) ≤ ((a1)) by omega) (show -1 ≤ (v29) ∧ (v29) < (a1) by omega) (show (y44_0_14) = 0 ∨ (u0_10) ≤ (y44_0_14) ∧ (a1) + (y44_0_14) ≤ (u0_12) ∧ 1 ≤ (y44_0_15) ∧ (y44_0_15) ≤ (a1) by omega) (show (y44_0_14) ≤ 16384 by omega) rfl
                  · refine Ew_of (pcₚ := 134) (fun _ => x_aload_n rfl (rk_o (l44_0) rfl rfl)) ?_
                    refine Ew_of (pcₚ := 136) (fun _ => x_iload rfl rk_s) ?_
                    refine v_p H (o := 0) (z := z25) (v := I (z25)) rfl rfl rfl rfl rfl rfl rfl rfl (show (-2147483648 : Int) ≤ z25 ∧ z25 ≤ 2147483647 by omega) (fun σ H Oₚ => ?_)
                    have O := OUT_trans O Oₚ
                    refine Ew_of (pcₚ := 140) (fun _ => x_aload_n rfl (rk_o (l44_0) rfl rfl)) ?_
                    refine Ew_of (pcₚ := 141) (fun _ => x_iload_n rfl (rk_o (l44_1) rfl rfl)) ?_
                    refine Ew_of (pcₚ := 142) (fun _ => x_iload_n rfl (rk_o (l44_2) rfl rfl)) ?_
                    refine w_isub rfl ?_
                    refine v_p H (o := 0) (z := (a1 - x44_2)) (v := I ((a1 - x44_2))) rfl rfl rfl rfl rfl rfl rfl rfl (show (-2147483648 : Int) ≤ (a1 - x44_2) ∧ (a1 - x44_2) ≤ 2147483647 by omega) (fun σ H Oₚ => ?_)
                    have O := OUT_trans O Oₚ
                    refine Ew_of (pcₚ := 147) (fun _ => x_aload_n rfl (rk_o (l44_0) rfl rfl)) ?_
                    refine v_g H (o := 0) (v := .ref (D 3)) rfl rfl rfl rfl rfl (vrf (((((show F25 0 8 = F_44 0 8 from (eF25 0 8).trans (hS25 0 8 rfl))).trans (hS_44 0 8 rfl))).trans (pf3))) ?_
                    refine Ew_of (pcₚ := 151) (fun _ => x_iload_n rfl (rk_o (l44_2) rfl rfl)) ?_
                    refine v_lI H (o := 3) rfl rfl rfl rfl (n := n3) (en3) (show 0 ≤ x44_2 ∧ x44_2 < n3 by omega) (fun v30 ev30 qv30 => ?_)
                    have ev30 : (w3) (x44_2) = v30 := (congrFun (((show A25 3 = A_44 3 from (eA25 3))).trans ((funext (hA_44 3 rfl)).trans (ew3))) (x44_2)).symm.trans ev30
                    have hb6 := hbk ((x44_2)) (by omega) (by omega)
                    rw [ev30] at hb6
                    have hb7 : -1 ≤ (v30) ∧ (v30) < (x44_2) := ⟨hb6.1, hb6.2.1⟩
                    clear hb6
                    refine Ew_of (pcₚ := 153) (fun _ => x_istore_n rfl) ?_
                    refine Ew_of (pcₚ := 156) (fun _ => x_iinc (len := 3) rfl (rk_o (rk_o (l44_3) rfl rfl) rfl rfl)) ?_
                    refine Ew_of (pcₚ := 44) (fun _ => x_goto rfl rfl) ?_
                    exact ih44 _ (by omega) _ _ _ _ (v30) ((x44_3 + 1)) (rk_o (rk_o (rk_o (l44_0) rfl rfl) rfl rfl) rfl rfl) (rk_o (rk_o (rk_o (l44_1) rfl rfl) rfl rfl) rfl rfl) (rk_o (rk_s) rfl rfl) (rk_s) H O (SF_upd (SF_upd (SF_trans (hS_44) (SF_glu (ι := [0, 1, 2]) hS25 eF25 (by decide +kernel)) (any_sub (lₚ := []) rfl)) rfl) rfl) (SA_trans (hA_44) (SA_glu (ι := [0, 1, 2]) hA25 eA25 (by decide +kernel)) (any_subA (lₚ := []) rfl))   (z25) (rfl) ((a1 - x44_2)) (rfl)  (show inr (v30) by omega) (show inr ((x44_3 + 1)) by omega) (show (0) ≤ ((x44_3 + 1)) by omega) (show ((x44_3 + 1)) ≤ (0) ∨ ((x44_3 + 1)) ≤ ((a1)) by omega) (show -1 ≤ (v30) ∧ (v30) < (a1) by omega) (show (z25) = 0 ∨ (u0_10) ≤ (z25) ∧ (a1) + (z25) ≤ (u0_12) ∧ 1 ≤ ((a1 - x44_2)) ∧ ((a1 - x44_2)) ≤ (a1) by omega) (show (z25) ≤ 16384 by omega) rfl
  · refine Ew_of (pcₚ := 9) (fun _ => x_aload_n rfl rfl) ?_
    refine Ew_of (pcₚ := 10) (fun _ => x_aload_n rfl rfl) ?_
    refine v_g H (o := 0) (v := I (u0_17)) rfl rfl rfl rfl rfl (congrArg (fun z : Int => I z) ((eu0_17) : F 0 17 = u0_17)) ?_
    refine v_p H (o := 0) (z := u0_17) (v := I (u0_17)) rfl rfl rfl rfl rfl rfl rfl rfl (show (-2147483648 : Int) ≤ u0_17 ∧ u0_17 ≤ 2147483647 by omega) (fun σ H Oₚ => ?_)
    have O := OUT_trans O Oₚ
    refine Ew_of (pcₚ := 17) (fun _ => x_aload_n rfl rfl) ?_
    refine Ew_of (pcₚ := 18) (fun _ => x_aload_n rfl rfl) ?_
    refine v_g H (o := 0) (v := I (u0_18)) rfl rfl rfl rfl rfl (congrArg (fun z : Int => I z) ((eu0_18) : (updF F 0 14 (u0_17)) 0 18 = u0_18)) ?_
    refine v_p H (o := 0) (z := u0_18) (v := I (u0_18)) rfl rfl rfl rfl rfl rfl rfl rfl (show (-2147483648 : Int) ≤ u0_18 ∧ u0_18 ≤ 2147483647 by omega) (fun σ H Oₚ => ?_)
    have O := OUT_trans O Oₚ
    exact w_ret rfl (k _ _ _ H O (SF_upd (SF_upd (SF_refl) rfl) rfl) (SA_refl) (u0_17) (rfl) (u0_18) (rfl) (show (u0_17) = 0 ∨ (u0_10) ≤ (u0_17) ∧ a1 + (u0_17) ≤ (u0_12) ∧ 1 ≤ (u0_18) ∧ (u0_18) ≤ a1 by omega))
abbrev V127 : vV := [(0, 5, [(4, 0), (4, 0), (4, 0), (4, 0), (0, 0), (0, 0), (0, 0), (4, 0), (4, 0), (0, 0), (0, 0), (0, 0), (0, 0), (0, 0), (0, 0), (0, 0), (0, 0), (0, 0), (0, 0)]), (0, 7, [(4, 0), (0, 0), (1, 0), (0, 0), (0, 0)]), (1, 0, []), (1, 1, [])]
/-- Finder.matchAt: this, this.data, this.data.bytes, this.back -/
theorem C127 {σE : rS} {D N : Nat → Nat} {F : hF} {A : hA} {d c s : Nat} {Q : wQ} (H : HW V127 σE D N F A) {a1 : Int} (pf1 : F 0 0 = (D 1 : Int)) (pf2 : F 1 0 = (D 2 : Int)) (pf3 : F 0 8 = (D 3 : Int)) (n2 : Int) (en2 : (N 2 : Int) = n2) (n3 : Int) (en3 : (N 3 : Int) = n3) (u0_6 : Int) (eu0_6 : F 0 6 = u0_6) (u0_10 : Int) (eu0_10 : F 0 10 = u0_10) (u0_12 : Int) (eu0_12 : F 0 12 = u0_12) (u0_13 : Int) (eu0_13 : F 0 13 = u0_13) (u0_14 : Int) (eu0_14 : F 0 14 = u0_14) (u0_15 : Int) (eu0_15 : F 0 15 = u0_15) (u0_16 : Int) (eu0_16 : F 0 16 = u0_16) (u0_17 : Int) (eu0_17 : F 0 17 = u0_17) (u0_18 : Int) (eu0_18 : F 0 18 = u0_18) (u1_1 : Int) (eu1_1 : F 1 1 = u1_1) (w2 : Int → Int) (ew2 : A 2 = w2) (w3 : Int → Int) (ew3 : A 3 = w3) (h0 : inr (a1)) (h1 : 0 ≤ (u1_1) ∧ (u1_1) ≤ (n2) ∧ (n2) ≤ 65536 ∧ (u1_1) ≤ 16384) (h2 : (u0_12) ≤ (u1_1)) (h3 : 1 ≤ (u0_10) ∧ (u0_10) ≤ 8) (h4 : 0 ≤ (a1) ∧ (a1) < (u0_6)) (h5 : (u0_6) ≤ (n3) ∧ (n3) ≤ 16384) (h6 : BKI ((w2)) ((w3)) ((u0_10)) ((u0_6))) (h7 : (u0_16) = -1 ∨ (u0_17) = 0 ∨ (u0_10) ≤ (u0_17) ∧ (u0_16) + (u0_17) ≤ (u0_12) ∧ 1 ≤ (u0_18) ∧ (u0_18) ≤ (u0_16)) (h8 : (u0_13) < (u0_6)) (h9 : (a1) ≤ (u0_13)) (k : ∀ (z : Int) (σ : rS) (Fₚ : hF) (Aₚ : hA), HW V127 σ D N Fₚ Aₚ → OUT (V127).length D N σE c s D N σ c s → SF [(0, 14), (0, 15), (0, 16), (0, 17), (0, 18)] F Fₚ → SA [] A Aₚ → ∀ y0_14 : Int, Fₚ 0 14 = y0_14 → ∀ y0_15 : Int, Fₚ 0 15 = y0_15 → ∀ y0_16 : Int, Fₚ 0 16 = y0_16 → ∀ y0_17 : Int, Fₚ 0 17 = y0_17 → ∀ y0_18 : Int, Fₚ 0 18 = y0_18 → ((z) = 0 ∨ (z) = 1) → ((z) = 1 → (u0_10) ≤ (y0_14) ∧ (a1) + (y0_14) ≤ (u0_12) ∧ 1 ≤ (y0_15) ∧ (y0_15) ≤ (a1)) → ((y0_16) = -1 ∨ (y0_17) = 0 ∨ (u0_10) ≤ (y0_17) ∧ (y0_16) + (y0_17) ≤ (u0_12) ∧ 1 ≤ (y0_18) ∧ (y0_18) ≤ (y0_16)) → Q (some (I z)) σ c s) : Ew 127 (d + 2) 0 (rargs 0 [.ref (D 0), I a1]) [] σE c s Q := by
  have O := OUT_refl (n := (V127).length) (D := D) (N := N) (σ := σE) (c := c) (s := s)
  have HE := H
  have r1 : (-2147483648 : Int) ≤ u0_6 ∧ u0_6 ≤ 2147483647 := by have h1 : (-2147483648 : Int) ≤ F 0 6 ∧ F 0 6 ≤ 2147483647 := H.krg 0 6 (by decide); rw [show F 0 6 = u0_6 from (eu0_6)] at h1; exact h1
  have r2 : (-2147483648 : Int) ≤ u0_10 ∧ u0_10 ≤ 2147483647 := by have h1 : (-2147483648 : Int) ≤ F 0 10 ∧ F 0 10 ≤ 2147483647 := H.krg 0 10 (by decide); rw [show F 0 10 = u0_10 from (eu0_10)] at h1; exact h1
  have r3 : (-2147483648 : Int) ≤ u0_12 ∧ u0_12 ≤ 2147483647 := by have h1 : (-2147483648 : Int) ≤ F 0 12 ∧ F 0 12 ≤ 2147483647 := H.krg 0 12 (by decide); rw [show F 0 12 = u0_12 from (eu0_12)] at h1; exact h1
  have r4 : (-2147483648 : Int) ≤ u0_13 ∧ u0_13 ≤ 2147483647 := by have h1 : (-2147483648 : Int) ≤ F 0 13 ∧ F 0 13 ≤ 2147483647 := H.krg 0 13 (by decide); rw [show F 0 13 = u0_13 from (eu0_13)] at h1; exact h1
  have r5 : (-2147483648 : Int) ≤ u0_14 ∧ u0_14 ≤ 2147483647 := by have h1 : (-2147483648 : Int) ≤ F 0 14 ∧ F 0 14 ≤ 2147483647 := H.krg 0 14 (by decide); rw [show F 0 14 = u0_14 from (eu0_14)] at h1; exact h1
  have r6 : (-2147483648 : Int) ≤ u0_15 ∧ u0_15 ≤ 2147483647 := by have h1 : (-2147483648 : Int) ≤ F 0 15 ∧ F 0 15 ≤ 2147483647 := H.krg 0 15 (by decide); rw [show F 0 15 = u0_15 from (eu0_15)] at h1; exact h1
  have r7 : (-2147483648 : Int) ≤ u0_16 ∧ u0_16 ≤ 2147483647 := by have h1 : (-2147483648 : Int) ≤ F 0 16 ∧ F 0 16 ≤ 2147483647 := H.krg 0 16 (by decide); rw [show F 0 16 = u0_16 from (eu0_16)] at h1; exact h1
  have r8 : (-2147483648 : Int) ≤ u0_17 ∧ u0_17 ≤ 2147483647 := by have h1 : (-2147483648 : Int) ≤ F 0 17 ∧ F 0 17 ≤ 2147483647 := H.krg 0 17 (by decide); rw [show F 0 17 = u0_17 from (eu0_17)] at h1; exact h1
  have r9 : (-2147483648 : Int) ≤ u0_18 ∧ u0_18 ≤ 2147483647 := by have h1 : (-2147483648 : Int) ≤ F 0 18 ∧ F 0 18 ≤ 2147483647 := H.krg 0 18 (by decide); rw [show F 0 18 = u0_18 from (eu0_18)] at h1; exact h1
  have r10 : (-2147483648 : Int) ≤ u1_1 ∧ u1_1 ≤ 2147483647 := by have h1 : (-2147483648 : Int) ≤ F 1 1 ∧ F 1 1 ≤ 2147483647 := H.krg 1 1 (by decide); rw [show F 1 1 = u1_1 from (eu1_1)] at h1; exact h1
  have r11 : (0 : Int) ≤ n2 ∧ n2 ≤ 1000000 := by have h1 := H.nle 2 (by decide); have h2 : (N 2 : Int) = n2 := en2; omega
  have r12 : (0 : Int) ≤ n3 ∧ n3 ≤ 1000000 := by have h1 := H.nle 3 (by decide); have h2 : (N 3 : Int) = n3 := en3; omega
  refine Ew_of (pcₚ := 1) (fun _ => x_aload_n rfl rfl) ?_
  have r13 : (-2147483648 : Int) ≤ F 0 9 ∧ F 0 9 ≤ 2147483647 := by have h1 : (-2147483648 : Int) ≤ F 0 9 ∧ F 0 9 ≤ 2147483647 := H.krg 0 9 (by decide); rw [show F 0 9 = F 0 9 from rfl] at h1; exact h1
  refine v_g H (o := 0) (v := I (F 0 9)) rfl rfl rfl rfl rfl (congrArg (fun z : Int => I z) (rfl : F 0 9 = F 0 9)) ?_
  refine Ew_of (pcₚ := 5) (fun _ => x_iconst rfl) ?_
  refine w_icmpge (t := 44) rfl rfl (show inr (F 0 9) by omega) (show inr (2) by omega) (fun b14 => ?_) (fun b14 => ?_)
  · refine Ew_of (pcₚ := 45) (fun _ => x_aload_n rfl rfl) ?_
    refine Ew_of (pcₚ := 46) (fun _ => x_iload_n rfl rfl) ?_
    refine v_inv H (o := 0) rfl rfl rfl rfl rfl rfl (by rfl) (C130 (D := pul [0, 1, 2, 3] D) (N := pul [0, 1, 2, 3] N) (HW_sub H (VS_of (show vsub V127 V130 [0, 1, 2, 3] = true by decide +kernel))) (pf1) (pf2) (pf3) (n2) (en2) (n3) (en3) (u0_6) ((eu0_6)) (u0_10) ((eu0_10)) (u0_12) ((eu0_12)) (u0_14) ((eu0_14)) (u0_15) ((eu0_15)) (u0_16) ((eu0_16)) (u0_17) ((eu0_17)) (u0_18) ((eu0_18)) (u1_1) ((eu1_1)) (w2) (ew2) (w3) (ew3) (show inr (a1) by omega) (show 0 ≤ (u1_1) ∧ (u1_1) ≤ (n2) ∧ (n2) ≤ 65536 ∧ (u1_1) ≤ 16384 by omega) (show (u0_12) ≤ (u1_1) by omega) (show 1 ≤ (u0_10) ∧ (u0_10) ≤ 8 by omega) (show 0 ≤ (a1) ∧ (a1) < (u0_6) by omega) (show (u0_6) ≤ (n3) ∧ (n3) ≤ 16384 by omega) (show BKI ((w2)) ((w3)) ((u0_10)) ((u0_6)) by assumption) (show (u0_16) = -1 ∨ (u0_17) = 0 ∨ (u0_10) ≤ (u0_17) ∧ (u0_16) + (u0_17) ≤ (u0_12) ∧ 1 ≤ (u0_18) ∧ (u0_18) ≤ (u0_16) by omega) (fun σ15 F15ₚ A15ₚ Hₚ Oₚ hS15 hA15 y15_0_14 ey15_0_14 y15_0_15 ey15_0_15 pz15_0 => ⟨rfl, ?_⟩))
    refine v_back (c := c) (s := s) H (show vsub V127 V130 [0, 1, 2, 3] = true by decide +kernel) Hₚ Oₚ (fun F15 A15 H Oₚ eF15 eA15 => ?_)
    have O := OUT_trans O Oₚ
    -- Finder.longest
    have r16 : (-2147483648 : Int) ≤ y15_0_14 ∧ y15_0_14 ≤ 2147483647 := by have h1 : (-2147483648 : Int) ≤ F15 0 14 ∧ F15 0 14 ≤ 2147483647 := H.krg 0 14 (by decide); rw [show F15 0 14 = y15_0_14 from ((eF15 0 14).trans ey15_0_14)] at h1; exact h1
    have r17 : (-2147483648 : Int) ≤ y15_0_15 ∧ y15_0_15 ≤ 2147483647 := by have h1 : (-2147483648 : Int) ≤ F15 0 15 ∧ F15 0 15 ≤ 2147483647 := H.krg 0 15 (by decide); rw [show F15 0 15 = y15_0_15 from ((eF15 0 15).trans ey15_0_15)] at h1; exact h1
    refine Ew_of (pcₚ := 50) (fun _ => x_aload_n rfl rfl) ?_
    refine v_g H (o := 0) (v := I (y15_0_14)) rfl rfl rfl rfl rfl (congrArg (fun z : Int => I z) (((eF15 0 14).trans ey15_0_14) : F15 0 14 = y15_0_14)) ?_
    have hc74 : ∀ (ls : rO) (σ : rS) (F_c74 : hF) (A_c74 : hA) , rlook ls 0 = some (.ref (D 0)) → HW V127 σ D N F_c74 A_c74 → OUT (V127).length D N σE c s D N σ c s → SF [] F15 F_c74 → SA [] A15 A_c74 → (((y15_0_14) = (0)) ∨ ((y15_0_14) ≠ (0) ∧ (F 0 9) = (2)) ∨ ((y15_0_14) ≠ (0) ∧ (F 0 9) ≠ (2) ∧ ((a1 + 1)) > (u0_13))) → Ew 127 (d + 2) 74 ls [] σ c s Q := by
     as_aux_lemma =>
      intro  ls σ F_c74 A_c74  lc74_0 H O hS_c74 hA_c74     jc74_0
      refine Ew_of (pcₚ := 75) (fun _ => x_aload_n rfl lc74_0) ?_
      refine v_g H (o := 0) (v := I (y15_0_14)) rfl rfl rfl rfl rfl (congrArg (fun z : Int => I z) (((hS_c74 0 14 rfl).trans ((eF15 0 14).trans ey15_0_14)) : F_c74 0 14 = y15_0_14)) ?_
      refine w_ifle (t := 85) rfl rfl (show inr (y15_0_14) by omega) (fun b18 => ?_) (fun b18 => ?_)
      · refine Ew_of (pcₚ := 86) (fun _ => x_iconst rfl) ?_
        exact w_ireturn rfl (k (0) _ _ _ H O (SF_trans (SF_trans (SF_refl) (SF_glu (ι := [0, 1, 2, 3]) hS15 eF15 (by decide +kernel)) (any_sub (lₚ := [(0, 14), (0, 15)]) rfl)) hS_c74 (any_sub rfl)) (SA_trans (SA_trans (SA_refl) (SA_glu (ι := [0, 1, 2, 3]) hA15 eA15 (by decide +kernel)) (any_subA (lₚ := []) rfl)) hA_c74 (any_subA rfl)) (y15_0_14) (((hS_c74 0 14 rfl).trans ((eF15 0 14).trans ey15_0_14))) (y15_0_15) (((hS_c74 0 15 rfl).trans ((eF15 0 15).trans ey15_0_15))) (u0_16) ((((hS_c74 0 16 rfl).trans ((show F15 0 16 = F 0 16 from (eF15 0 16).trans (hS15 0 16 rfl)))).trans (eu0_16))) (u0_17) ((((hS_c74 0 17 rfl).trans ((show F15 0 17 = F 0 17 from (eF15 0 17).trans (hS15 0 17 rfl)))).trans (eu0_17))) (u0_18) ((((hS_c74 0 18 rfl).trans ((show F15 0 18 = F 0 18 from (eF15 0 18).trans (hS15 0 18 rfl)))).trans (eu0_18))) (show (0) = 0 ∨ (0) = 1 by omega) (show (0) = 1 → (u0_10) ≤ (y15_0_14) ∧ a1 + (y15_0_14) ≤ (u0_12) ∧ 1 ≤ (y15_0_15) ∧ (y15_0_15) ≤ a1 by omega) (show (u0_16) = -1 ∨ (u0_17) = 0 ∨ (u0_10) ≤ (u0_17) ∧ (u0_16) + (u0_17) ≤ (u0_12) ∧ 1 ≤ (u0_18) ∧ (u0_18) ≤ (u0_16) by omega))
      · refine Ew_of (pcₚ := 82) (fun _ => x_iconst rfl) ?_
        refine Ew_of (pcₚ := 86) (fun _ => x_goto rfl rfl) ?_
        exact w_ireturn rfl (k (1) _ _ _ H O (SF_trans (SF_trans (SF_refl) (SF_glu (ι := [0, 1, 2, 3]) hS15 eF15 (by decide +kernel)) (any_sub (lₚ := [(0, 14), (0, 15)]) rfl)) hS_c74 (any_sub rfl)) (SA_trans (SA_trans (SA_refl) (SA_glu (ι := [0, 1, 2, 3]) hA15 eA15 (by decide +kernel)) (any_subA (lₚ := []) rfl)) hA_c74 (any_subA rfl)) (y15_0_14) (((hS_c74 0 14 rfl).trans ((eF15 0 14).trans ey15_0_14))) (y15_0_15) (((hS_c74 0 15 rfl).trans ((eF15 0 15).trans ey15_0_15))) (u0_16) ((((hS_c74 0 16 rfl).trans ((show F15 0 16 = F 0 16 from (eF15 0 16).trans (hS15 0 16 rfl)))).trans (eu0_16))) (u0_17) ((((hS_c74 0 17 rfl).trans ((show F15 0 17 = F 0 17 from (eF15 0 17).trans (hS15 0 17 rfl)))).trans (eu0_17))) (u0_18) ((((hS_c74 0 18 rfl).trans ((show F15 0 18 = F 0 18 from (eF15 0 18).trans (hS15 0 18 rfl)))).trans (eu0_18))) (show (1) = 0 ∨ (1) = 1 by omega) (show (1) = 1 → (u0_10) ≤ (y15_0_14) ∧ a1 + (y15_0_14) ≤ (u0_12) ∧ 1 ≤ (y15_0_15) ∧ (y15_0_15) ≤ a1 by omega) (show (u0_16) = -1 ∨ (u0_17) = 0 ∨ (u0_10) ≤ (u0_17) ∧ (u0_16) + (u0_17) ≤ (u0_12) ∧ 1 ≤ (u0_18) ∧ (u0_18) ≤ (u0_16) by omega))
    refine w_ifeq (t := 74) rfl rfl (show inr (y15_0_14) by omega) (fun b19 => ?_) (fun b19 => ?_)
    · exact hc74  _ _ _ _  (rfl) H O (SF_refl) (SA_refl)     (show ((y15_0_14) = (0)) ∨ ((y15_0_14) ≠ (0) ∧ (F 0 9) = (2)) ∨ ((y15_0_14) ≠ (0) ∧ (F 0 9) ≠ (2) ∧ ((a1 + 1)) > (u0_13)) by omega)
    · refine Ew_of (pcₚ := 57) (fun _ => x_aload_n rfl rfl) ?_
      refine v_g H (o := 0) (v := I (F 0 9)) rfl rfl rfl rfl rfl (congrArg (fun z : Int => I z) (((show F15 0 9 = F 0 9 from (eF15 0 9).trans (hS15 0 9 rfl))) : F15 0 9 = F 0 9)) ?_
      refine Ew_of (pcₚ := 61) (fun _ => x_iconst rfl) ?_
      refine w_icmpeq (t := 74) rfl rfl (show inr (F 0 9) by omega) (show inr (2) by omega) (fun b20 => ?_) (fun b20 => ?_)
      · exact hc74  _ _ _ _  (rfl) H O (SF_refl) (SA_refl)     (show ((y15_0_14) = (0)) ∨ ((y15_0_14) ≠ (0) ∧ (F 0 9) = (2)) ∨ ((y15_0_14) ≠ (0) ∧ (F 0 9) ≠ (2) ∧ ((a1 + 1)) > (u0_13)) by omega)
      · refine Ew_of (pcₚ := 65) (fun _ => x_iload_n rfl rfl) ?_
        refine Ew_of (pcₚ := 66) (fun _ => x_iconst rfl) ?_
        refine w_iadd rfl ?_
        refine Ew_of (pcₚ := 68) (fun _ => x_aload_n rfl rfl) ?_
        refine v_g H (o := 0) (v := I (u0_13)) rfl rfl rfl rfl rfl (congrArg (fun z : Int => I z) ((((show F15 0 13 = F 0 13 from (eF15 0 13).trans (hS15 0 13 rfl))).trans (eu0_13)) : F15 0 13 = u0_13)) ?_
        refine w_icmple (t := 87) rfl rfl (show inr ((a1 + 1)) by omega) (show inr (u0_13) by omega) (fun b21 => ?_) (fun b21 => ?_)
        · refine Ew_of (pcₚ := 88) (fun _ => x_aload_n rfl rfl) ?_
          refine v_g H (o := 0) (v := I (y15_0_14)) rfl rfl rfl rfl rfl (congrArg (fun z : Int => I z) (((eF15 0 14).trans ey15_0_14) : F15 0 14 = y15_0_14)) ?_
          refine Ew_of (pcₚ := 92) (fun _ => x_istore_n rfl) ?_
          refine Ew_of (pcₚ := 93) (fun _ => x_aload_n rfl (rk_o (rfl) rfl rfl)) ?_
          refine v_g H (o := 0) (v := I (y15_0_15)) rfl rfl rfl rfl rfl (congrArg (fun z : Int => I z) (((eF15 0 15).trans ey15_0_15) : F15 0 15 = y15_0_15)) ?_
          refine Ew_of (pcₚ := 97) (fun _ => x_istore_n rfl) ?_
          refine Ew_of (pcₚ := 98) (fun _ => x_aload_n rfl (rk_o (rk_o (rfl) rfl rfl) rfl rfl)) ?_
          refine Ew_of (pcₚ := 99) (fun _ => x_iload_n rfl (rk_o (rk_o (rfl) rfl rfl) rfl rfl)) ?_
          refine Ew_of (pcₚ := 100) (fun _ => x_iconst rfl) ?_
          refine w_iadd rfl ?_
          refine v_inv H (o := 0) rfl rfl rfl rfl rfl rfl (by rfl) (C130 (D := pul [0, 1, 2, 3] D) (N := pul [0, 1, 2, 3] N) (HW_sub H (VS_of (show vsub V127 V130 [0, 1, 2, 3] = true by decide +kernel))) ((((show F15 0 0 = F 0 0 from (eF15 0 0).trans (hS15 0 0 rfl)))).trans (pf1)) ((((show F15 1 0 = F 1 0 from (eF15 1 0).trans (hS15 1 0 rfl)))).trans (pf2)) ((((show F15 0 8 = F 0 8 from (eF15 0 8).trans (hS15 0 8 rfl)))).trans (pf3)) (n2) (en2) (n3) (en3) (u0_6) ((((show F15 0 6 = F 0 6 from (eF15 0 6).trans (hS15 0 6 rfl))).trans (eu0_6))) (u0_10) ((((show F15 0 10 = F 0 10 from (eF15 0 10).trans (hS15 0 10 rfl))).trans (eu0_10))) (u0_12) ((((show F15 0 12 = F 0 12 from (eF15 0 12).trans (hS15 0 12 rfl))).trans (eu0_12))) (y15_0_14) (((eF15 0 14).trans ey15_0_14)) (y15_0_15) (((eF15 0 15).trans ey15_0_15)) (u0_16) ((((show F15 0 16 = F 0 16 from (eF15 0 16).trans (hS15 0 16 rfl))).trans (eu0_16))) (u0_17) ((((show F15 0 17 = F 0 17 from (eF15 0 17).trans (hS15 0 17 rfl))).trans (eu0_17))) (u0_18) ((((show F15 0 18 = F 0 18 from (eF15 0 18).trans (hS15 0 18 rfl))).trans (eu0_18))) (u1_1) ((((show F15 1 1 = F 1 1 from (eF15 1 1).trans (hS15 1 1 rfl))).trans (eu1_1))) (w2) (((show A15 2 = A 2 from (eA15 2).trans (funext (hA15 2 rfl)))).trans (ew2)) (w3) (((show A15 3 = A 3 from (eA15 3).trans (funext (hA15 3 rfl)))).trans (ew3)) (show inr ((a1 + 1)) by omega) (show 0 ≤ (u1_1) ∧ (u1_1) ≤ (n2) ∧ (n2) ≤ 65536 ∧ (u1_1) ≤ 16384 by omega) (show (u0_12) ≤ (u1_1) by omega) (show 1 ≤ (u0_10) ∧ (u0_10) ≤ 8 by omega) (show 0 ≤ ((a1 + 1)) ∧ ((a1 + 1)) < (u0_6) by omega) (show (u0_6) ≤ (n3) ∧ (n3) ≤ 16384 by omega) (show BKI ((w2)) ((w3)) ((u0_10)) ((u0_6)) by assumption) (show (u0_16) = -1 ∨ (u0_17) = 0 ∨ (u0_10) ≤ (u0_17) ∧ (u0_16) + (u0_17) ≤ (u0_12) ∧ 1 ≤ (u0_18) ∧ (u0_18) ≤ (u0_16) by omega) (fun σ22 F22ₚ A22ₚ Hₚ Oₚ hS22 hA22 y22_0_14 ey22_0_14 y22_0_15 ey22_0_15 pz22_0 => ⟨rfl, ?_⟩))
          refine v_back (c := c) (s := s) H (show vsub V127 V130 [0, 1, 2, 3] = true by decide +kernel) Hₚ Oₚ (fun F22 A22 H Oₚ eF22 eA22 => ?_)
          have O := OUT_trans O Oₚ
          -- Finder.longest
          have r23 : (-2147483648 : Int) ≤ y22_0_14 ∧ y22_0_14 ≤ 2147483647 := by have h1 : (-2147483648 : Int) ≤ F22 0 14 ∧ F22 0 14 ≤ 2147483647 := H.krg 0 14 (by decide); rw [show F22 0 14 = y22_0_14 from ((eF22 0 14).trans ey22_0_14)] at h1; exact h1
          have r24 : (-2147483648 : Int) ≤ y22_0_15 ∧ y22_0_15 ≤ 2147483647 := by have h1 : (-2147483648 : Int) ≤ F22 0 15 ∧ F22 0 15 ≤ 2147483647 := H.krg 0 15 (by decide); rw [show F22 0 15 = y22_0_15 from ((eF22 0 15).trans ey22_0_15)] at h1; exact h1
          refine Ew_of (pcₚ := 105) (fun _ => x_aload_n rfl (rk_o (rk_o (rfl) rfl rfl) rfl rfl)) ?_
          refine Ew_of (pcₚ := 106) (fun _ => x_iload_n rfl (rk_o (rk_o (rfl) rfl rfl) rfl rfl)) ?_
          refine Ew_of (pcₚ := 107) (fun _ => x_iconst rfl) ?_
          refine w_iadd rfl ?_
          refine v_p H (o := 0) (z := (a1 + 1)) (v := I ((a1 + 1))) rfl rfl rfl rfl rfl rfl rfl rfl (show (-2147483648 : Int) ≤ (a1 + 1) ∧ (a1 + 1) ≤ 2147483647 by omega) (fun σ H Oₚ => ?_)
          have O := OUT_trans O Oₚ
          refine Ew_of (pcₚ := 112) (fun _ => x_aload_n rfl (rk_o (rk_o (rfl) rfl rfl) rfl rfl)) ?_
          refine Ew_of (pcₚ := 113) (fun _ => x_aload_n rfl (rk_o (rk_o (rfl) rfl rfl) rfl rfl)) ?_
          refine v_g H (o := 0) (v := I (y22_0_14)) rfl rfl rfl rfl rfl (congrArg (fun z : Int => I z) (((eF22 0 14).trans ey22_0_14) : (updF F22 0 16 ((a1 + 1))) 0 14 = y22_0_14)) ?_
          refine v_p H (o := 0) (z := y22_0_14) (v := I (y22_0_14)) rfl rfl rfl rfl rfl rfl rfl rfl (show (-2147483648 : Int) ≤ y22_0_14 ∧ y22_0_14 ≤ 2147483647 by omega) (fun σ H Oₚ => ?_)
          have O := OUT_trans O Oₚ
          refine Ew_of (pcₚ := 120) (fun _ => x_aload_n rfl (rk_o (rk_o (rfl) rfl rfl) rfl rfl)) ?_
          refine Ew_of (pcₚ := 121) (fun _ => x_aload_n rfl (rk_o (rk_o (rfl) rfl rfl) rfl rfl)) ?_
          refine v_g H (o := 0) (v := I (y22_0_15)) rfl rfl rfl rfl rfl (congrArg (fun z : Int => I z) (((eF22 0 15).trans ey22_0_15) : (updF (updF F22 0 16 ((a1 + 1))) 0 17 (y22_0_14)) 0 15 = y22_0_15)) ?_
          refine v_p H (o := 0) (z := y22_0_15) (v := I (y22_0_15)) rfl rfl rfl rfl rfl rfl rfl rfl (show (-2147483648 : Int) ≤ y22_0_15 ∧ y22_0_15 ≤ 2147483647 by omega) (fun σ H Oₚ => ?_)
          have O := OUT_trans O Oₚ
          refine Ew_of (pcₚ := 128) (fun _ => x_aload_n rfl (rk_o (rk_o (rfl) rfl rfl) rfl rfl)) ?_
          refine Ew_of (pcₚ := 129) (fun _ => x_iload_n rfl (rk_o (rk_s) rfl rfl)) ?_
          refine v_p H (o := 0) (z := y15_0_14) (v := I (y15_0_14)) rfl rfl rfl rfl rfl rfl rfl rfl (show (-2147483648 : Int) ≤ y15_0_14 ∧ y15_0_14 ≤ 2147483647 by omega) (fun σ H Oₚ => ?_)
          have O := OUT_trans O Oₚ
          refine Ew_of (pcₚ := 133) (fun _ => x_aload_n rfl (rk_o (rk_o (rfl) rfl rfl) rfl rfl)) ?_
          refine Ew_of (pcₚ := 134) (fun _ => x_iload_n rfl rk_s) ?_
          refine v_p H (o := 0) (z := y15_0_15) (v := I (y15_0_15)) rfl rfl rfl rfl rfl rfl rfl rfl (show (-2147483648 : Int) ≤ y15_0_15 ∧ y15_0_15 ≤ 2147483647 by omega) (fun σ H Oₚ => ?_)
          have O := OUT_trans O Oₚ
          refine Ew_of (pcₚ := 138) (fun _ => x_aload_n rfl (rk_o (rk_o (rfl) rfl rfl) rfl rfl)) ?_
          refine v_g H (o := 0) (v := I (y22_0_14)) rfl rfl rfl rfl rfl (congrArg (fun z : Int => I z) (rfl : (updF (updF (updF (updF (updF F22 0 16 ((a1 + 1))) 0 17 (y22_0_14)) 0 18 (y22_0_15)) 0 14 (y15_0_14)) 0 15 (y15_0_15)) 0 17 = y22_0_14)) ?_
          refine Ew_of (pcₚ := 142) (fun _ => x_iload_n rfl (rk_o (rk_s) rfl rfl)) ?_
          refine w_icmpgt (t := 149) rfl rfl (show inr (y22_0_14) by omega) (show inr (y15_0_14) by omega) (fun b25 => ?_) (fun b25 => ?_)
          · refine Ew_of (pcₚ := 150) (fun _ => x_iconst rfl) ?_
            exact w_ireturn rfl (k (0) _ _ _ H O (SF_upd (SF_upd (SF_upd (SF_upd (SF_upd (SF_trans (SF_trans (SF_refl) (SF_glu (ι := [0, 1, 2, 3]) hS15 eF15 (by decide +kernel)) (any_sub (lₚ := [(0, 14), (0, 15)]) rfl)) (SF_glu (ι := [0, 1, 2, 3]) hS22 eF22 (by decide +kernel)) (any_sub (lₚ := [(0, 14), (0, 15)]) rfl)) rfl) rfl) rfl) rfl) rfl) (SA_trans (SA_trans (SA_refl) (SA_glu (ι := [0, 1, 2, 3]) hA15 eA15 (by decide +kernel)) (any_subA (lₚ := []) rfl)) (SA_glu (ι := [0, 1, 2, 3]) hA22 eA22 (by decide +kernel)) (any_subA (lₚ := []) rfl)) (y15_0_14) (rfl) (y15_0_15) (rfl) ((a1 + 1)) (rfl) (y22_0_14) (rfl) (y22_0_15) (rfl) (show (0) = 0 ∨ (0) = 1 by omega) (show (0) = 1 → (u0_10) ≤ (y15_0_14) ∧ a1 + (y15_0_14) ≤ (u0_12) ∧ 1 ≤ (y15_0_15) ∧ (y15_0_15) ≤ a1 by omega) (show ((a1 + 1)) = -1 ∨ (y22_0_14) = 0 ∨ (u0_10) ≤ (y22_0_14) ∧ ((a1 + 1)) + (y22_0_14) ≤ (u0_12) ∧ 1 ≤ (y22_0_15) ∧ (y22_0_15) ≤ ((a1 + 1)) by omega))
          · refine Ew_of (pcₚ := 146) (fun _ => x_iconst rfl) ?_
            refine Ew_of (pcₚ := 150) (fun _ => x_goto rfl rfl) ?_
            exact w_ireturn rfl (k (1) _ _ _ H O (SF_upd (SF_upd (SF_upd (SF_upd (SF_upd (SF_trans (SF_trans (SF_refl) (SF_glu (ι := [0, 1, 2, 3]) hS15 eF15 (by decide +kernel)) (any_sub (lₚ := [(0, 14), (0, 15)]) rfl)) (SF_glu (ι := [0, 1, 2, 3]) hS22 eF22 (by decide +kernel)) (any_sub (lₚ := [(0, 14), (0, 15)]) rfl)) rfl) rfl) rfl) rfl) rfl) (SA_trans (SA_trans (SA_refl) (SA_glu (ι := [0, 1, 2, 3]) hA15 eA15 (by decide +kernel)) (any_subA (lₚ := []) rfl)) (SA_glu (ι := [0, 1, 2, 3]) hA22 eA22 (by decide +kernel)) (any_subA (lₚ := []) rfl)) (y15_0_14) (rfl) (y15_0_15) (rfl) ((a1 + 1)) (rfl) (y22_0_14) (rfl) (y22_0_15) (rfl) (show (1) = 0 ∨ (1) = 1 by omega) (show (1) = 1 → (u0_10) ≤ (y15_0_14) ∧ a1 + (y15_0_14) ≤ (u0_12) ∧ 1 ≤ (y15_0_15) ∧ (y15_0_15) ≤ a1 by omega) (show ((a1 + 1)) = -1 ∨ (y22_0_14) = 0 ∨ (u0_10) ≤ (y22_0_14) ∧ ((a1 + 1)) + (y22_0_14) ≤ (u0_12) ∧ 1 ≤ (y22_0_15) ∧ (y22_0_15) ≤ ((a1 + 1)) by omega))
        · exact hc74  _ _ _ _  (rfl) H O (SF_refl) (SA_refl)     (show ((y15_0_14) = (0)) ∨ ((y15_0_14) ≠ (0) ∧ (F 0 9) = (2)) ∨ ((y15_0_14) ≠ (0) ∧ (F 0 9) ≠ (2) ∧ ((a1 + 1)) > (u0_13)) by omega)
  · refine Ew_of (pcₚ := 9) (fun _ => x_aload_n rfl rfl) ?_
    refine v_g H (o := 0) (v := I (F 0 9)) rfl rfl rfl rfl rfl (congrArg (fun z : Int => I z) (rfl : F 0 9 = F 0 9)) ?_
    refine Ew_of (pcₚ := 13) (fun _ => x_iconst rfl) ?_
    refine w_icmpne (t := 26) rfl rfl (show inr (F 0 9) by omega) (show inr (1) by omega) (fun b26 => ?_) (fun b26 => ?_)
    · refine Ew_of (pcₚ := 27) (fun _ => x_aload_n rfl rfl) ?_
      refine Ew_of (pcₚ := 28) (fun _ => x_iload_n rfl rfl) ?_
      refine Ew_of (pcₚ := 29) (fun _ => x_aload_n rfl rfl) ?_
      refine v_g H (o := 0) (v := I (u0_10)) rfl rfl rfl rfl rfl (congrArg (fun z : Int => I z) ((eu0_10) : F 0 10 = u0_10)) ?_
      refine v_inv H (o := 0) rfl rfl rfl rfl rfl rfl (by rfl) (C129 (D := pul [0, 1, 2, 3] D) (N := pul [0, 1, 2, 3] N) (HW_sub H (VS_of (show vsub V127 V129 [0, 1, 2, 3] = true by decide +kernel))) (pf1) (pf2) (pf3) (n2) (en2) (n3) (en3) (u0_6) ((eu0_6)) (u0_10) ((eu0_10)) (u0_12) ((eu0_12)) (u0_14) ((eu0_14)) (u0_15) ((eu0_15)) (u1_1) ((eu1_1)) (w2) (ew2) (w3) (ew3) (show inr (a1) by omega) (show inr (u0_10) by omega) (show 0 ≤ (u1_1) ∧ (u1_1) ≤ (n2) ∧ (n2) ≤ 65536 ∧ (u1_1) ≤ 16384 by omega) (show (u0_12) ≤ (u1_1) by omega) (show 1 ≤ (u0_10) ∧ (u0_10) ≤ 8 by omega) (show 0 ≤ (a1) ∧ (a1) < (u0_6) by omega) (show (u0_6) ≤ (n3) ∧ (n3) ≤ 16384 by omega) (show BKI ((w2)) ((w3)) ((u0_10)) ((u0_6)) by assumption) (show 1 ≤ (u0_10) by omega) (fun z27 σ27 F27ₚ A27ₚ Hₚ Oₚ hS27 hA27 y27_0_14 ey27_0_14 y27_0_15 ey27_0_15 pz27_0 pz27_1 => ⟨rretB rfl pz27_0, ?_⟩))
      refine v_back (c := c) (s := s) H (show vsub V127 V129 [0, 1, 2, 3] = true by decide +kernel) Hₚ Oₚ (fun F27 A27 H Oₚ eF27 eA27 => ?_)
      have O := OUT_trans O Oₚ
      -- Finder.nearest
      have r28 : (-2147483648 : Int) ≤ y27_0_14 ∧ y27_0_14 ≤ 2147483647 := by have h1 : (-2147483648 : Int) ≤ F27 0 14 ∧ F27 0 14 ≤ 2147483647 := H.krg 0 14 (by decide); rw [show F27 0 14 = y27_0_14 from ((eF27 0 14).trans ey27_0_14)] at h1; exact h1
      have r29 : (-2147483648 : Int) ≤ y27_0_15 ∧ y27_0_15 ≤ 2147483647 := by have h1 : (-2147483648 : Int) ≤ F27 0 15 ∧ F27 0 15 ≤ 2147483647 := H.krg 0 15 (by decide); rw [show F27 0 15 = y27_0_15 from ((eF27 0 15).trans ey27_0_15)] at h1; exact h1
      refine w_ifeq (t := 42) rfl rfl (show inr (z27) by omega) (fun b30 => ?_) (fun b30 => ?_)
      · refine Ew_of (pcₚ := 43) (fun _ => x_iconst rfl) ?_
        exact w_ireturn rfl (k (0) _ _ _ H O (SF_trans (SF_refl) (SF_glu (ι := [0, 1, 2, 3]) hS27 eF27 (by decide +kernel)) (any_sub (lₚ := [(0, 14), (0, 15)]) rfl)) (SA_trans (SA_refl) (SA_glu (ι := [0, 1, 2, 3]) hA27 eA27 (by decide +kernel)) (any_subA (lₚ := []) rfl)) (y27_0_14) (((eF27 0 14).trans ey27_0_14)) (y27_0_15) (((eF27 0 15).trans ey27_0_15)) (u0_16) ((((show F27 0 16 = F 0 16 from (eF27 0 16).trans (hS27 0 16 rfl))).trans (eu0_16))) (u0_17) ((((show F27 0 17 = F 0 17 from (eF27 0 17).trans (hS27 0 17 rfl))).trans (eu0_17))) (u0_18) ((((show F27 0 18 = F 0 18 from (eF27 0 18).trans (hS27 0 18 rfl))).trans (eu0_18))) (show (0) = 0 ∨ (0) = 1 by omega) (show (0) = 1 → (u0_10) ≤ (y27_0_14) ∧ a1 + (y27_0_14) ≤ (u0_12) ∧ 1 ≤ (y27_0_15) ∧ (y27_0_15) ≤ a1 by omega) (show (u0_16) = -1 ∨ (u0_17) = 0 ∨ (u0_10) ≤ (u0_17) ∧ (u0_16) + (u0_17) ≤ (u0_12) ∧ 1 ≤ (u0_18) ∧ (u0_18) ≤ (u0_16) by omega))
      · refine Ew_of (pcₚ := 39) (fun _ => x_iconst rfl) ?_
        refine Ew_of (pcₚ := 43) (fun _ => x_goto rfl rfl) ?_
        exact w_ireturn rfl (k (1) _ _ _ H O (SF_trans (SF_refl) (SF_glu (ι := [0, 1, 2, 3]) hS27 eF27 (by decide +kernel)) (any_sub (lₚ := [(0, 14), (0, 15)]) rfl)) (SA_trans (SA_refl) (SA_glu (ι := [0, 1, 2, 3]) hA27 eA27 (by decide +kernel)) (any_subA (lₚ := []) rfl)) (y27_0_14) (((eF27 0 14).trans ey27_0_14)) (y27_0_15) (((eF27 0 15).trans ey27_0_15)) (u0_16) ((((show F27 0 16 = F 0 16 from (eF27 0 16).trans (hS27 0 16 rfl))).trans (eu0_16))) (u0_17) ((((show F27 0 17 = F 0 17 from (eF27 0 17).trans (hS27 0 17 rfl))).trans (eu0_17))) (u0_18) ((((show F27 0 18 = F 0 18 from (eF27 0 18).trans (hS27 0 18 rfl))).trans (eu0_18))) (show (1) = 0 ∨ (1) = 1 by omega) (show (1) = 1 → (u0_10) ≤ (y27_0_14) ∧ a1 + (y27_0_14) ≤ (u0_12) ∧ 1 ≤ (y27_0_15) ∧ (y27_0_15) ≤ a1 by omega) (show (u0_16) = -1 ∨ (u0_17) = 0 ∨ (u0_10) ≤ (u0_17) ∧ (u0_16) + (u0_17) ≤ (u0_12) ∧ 1 ≤ (u0_18) ∧ (u0_18) ≤ (u0_16) by omega))
    · refine Ew_of (pcₚ := 17) (fun _ => x_aload_n rfl rfl) ?_
      refine Ew_of (pcₚ := 18) (fun _ => x_iload_n rfl rfl) ?_
      refine Ew_of (pcₚ := 20) (fun _ => x_bipush (z := 8) rfl (by decide)) ?_
      refine v_inv H (o := 0) rfl rfl rfl rfl rfl rfl (by rfl) (C129 (D := pul [0, 1, 2, 3] D) (N := pul [0, 1, 2, 3] N) (HW_sub H (VS_of (show vsub V127 V129 [0, 1, 2, 3] = true by decide +kernel))) (pf1) (pf2) (pf3) (n2) (en2) (n3) (en3) (u0_6) ((eu0_6)) (u0_10) ((eu0_10)) (u0_12) ((eu0_12)) (u0_14) ((eu0_14)) (u0_15) ((eu0_15)) (u1_1) ((eu1_1)) (w2) (ew2) (w3) (ew3) (show inr (a1) by omega) (show inr (8) by omega) (show 0 ≤ (u1_1) ∧ (u1_1) ≤ (n2) ∧ (n2) ≤ 65536 ∧ (u1_1) ≤ 16384 by omega) (show (u0_12) ≤ (u1_1) by omega) (show 1 ≤ (u0_10) ∧ (u0_10) ≤ 8 by omega) (show 0 ≤ (a1) ∧ (a1) < (u0_6) by omega) (show (u0_6) ≤ (n3) ∧ (n3) ≤ 16384 by omega) (show BKI ((w2)) ((w3)) ((u0_10)) ((u0_6)) by assumption) (show 1 ≤ (8) by omega) (fun z31 σ31 F31ₚ A31ₚ Hₚ Oₚ hS31 hA31 y31_0_14 ey31_0_14 y31_0_15 ey31_0_15 pz31_0 pz31_1 => ⟨rretB rfl pz31_0, ?_⟩))
      refine v_back (c := c) (s := s) H (show vsub V127 V129 [0, 1, 2, 3] = true by decide +kernel) Hₚ Oₚ (fun F31 A31 H Oₚ eF31 eA31 => ?_)
      have O := OUT_trans O Oₚ
      -- Finder.nearest
      have r32 : (-2147483648 : Int) ≤ y31_0_14 ∧ y31_0_14 ≤ 2147483647 := by have h1 : (-2147483648 : Int) ≤ F31 0 14 ∧ F31 0 14 ≤ 2147483647 := H.krg 0 14 (by decide); rw [show F31 0 14 = y31_0_14 from ((eF31 0 14).trans ey31_0_14)] at h1; exact h1
      have r33 : (-2147483648 : Int) ≤ y31_0_15 ∧ y31_0_15 ≤ 2147483647 := by have h1 : (-2147483648 : Int) ≤ F31 0 15 ∧ F31 0 15 ≤ 2147483647 := H.krg 0 15 (by decide); rw [show F31 0 15 = y31_0_15 from ((eF31 0 15).trans ey31_0_15)] at h1; exact h1
      refine w_ifne (t := 38) rfl rfl (show inr (z31) by omega) (fun b34 => ?_) (fun b34 => ?_)
      · refine Ew_of (pcₚ := 39) (fun _ => x_iconst rfl) ?_
        refine Ew_of (pcₚ := 43) (fun _ => x_goto rfl rfl) ?_
        exact w_ireturn rfl (k (1) _ _ _ H O (SF_trans (SF_refl) (SF_glu (ι := [0, 1, 2, 3]) hS31 eF31 (by decide +kernel)) (any_sub (lₚ := [(0, 14), (0, 15)]) rfl)) (SA_trans (SA_refl) (SA_glu (ι := [0, 1, 2, 3]) hA31 eA31 (by decide +kernel)) (any_subA (lₚ := []) rfl)) (y31_0_14) (((eF31 0 14).trans ey31_0_14)) (y31_0_15) (((eF31 0 15).trans ey31_0_15)) (u0_16) ((((show F31 0 16 = F 0 16 from (eF31 0 16).trans (hS31 0 16 rfl))).trans (eu0_16))) (u0_17) ((((show F31 0 17 = F 0 17 from (eF31 0 17).trans (hS31 0 17 rfl))).trans (eu0_17))) (u0_18) ((((show F31 0 18 = F 0 18 from (eF31 0 18).trans (hS31 0 18 rfl))).trans (eu0_18))) (show (1) = 0 ∨ (1) = 1 by omega) (show (1) = 1 → (u0_10) ≤ (y31_0_14) ∧ a1 + (y31_0_14) ≤ (u0_12) ∧ 1 ≤ (y31_0_15) ∧ (y31_0_15) ≤ a1 by omega) (show (u0_16) = -1 ∨ (u0_17) = 0 ∨ (u0_10) ≤ (u0_17) ∧ (u0_16) + (u0_17) ≤ (u0_12) ∧ 1 ≤ (u0_18) ∧ (u0_18) ≤ (u0_16) by omega))
      · refine Ew_of (pcₚ := 27) (fun _ => x_aload_n rfl rfl) ?_
        refine Ew_of (pcₚ := 28) (fun _ => x_iload_n rfl rfl) ?_
        refine Ew_of (pcₚ := 29) (fun _ => x_aload_n rfl rfl) ?_
        refine v_g H (o := 0) (v := I (u0_10)) rfl rfl rfl rfl rfl (congrArg (fun z : Int => I z) ((((show F31 0 10 = F 0 10 from (eF31 0 10).trans (hS31 0 10 rfl))).trans (eu0_10)) : F31 0 10 = u0_10)) ?_
        refine v_inv H (o := 0) rfl rfl rfl rfl rfl rfl (by rfl) (C129 (D := pul [0, 1, 2, 3] D) (N := pul [0, 1, 2, 3] N) (HW_sub H (VS_of (show vsub V127 V129 [0, 1, 2, 3] = true by decide +kernel))) ((((show F31 0 0 = F 0 0 from (eF31 0 0).trans (hS31 0 0 rfl)))).trans (pf1)) ((((show F31 1 0 = F 1 0 from (eF31 1 0).trans (hS31 1 0 rfl)))).trans (pf2)) ((((show F31 0 8 = F 0 8 from (eF31 0 8).trans (hS31 0 8 rfl)))).trans (pf3)) (n2) (en2) (n3) (en3) (u0_6) ((((show F31 0 6 = F 0 6 from (eF31 0 6).trans (hS31 0 6 rfl))).trans (eu0_6))) (u0_10) ((((show F31 0 10 = F 0 10 from (eF31 0 10).trans (hS31 0 10 rfl))).trans (eu0_10))) (u0_12) ((((show F31 0 12 = F 0 12 from (eF31 0 12).trans (hS31 0 12 rfl))).trans (eu0_12))) (y31_0_14) (((eF31 0 14).trans ey31_0_14)) (y31_0_15) (((eF31 0 15).trans ey31_0_15)) (u1_1) ((((show F31 1 1 = F 1 1 from (eF31 1 1).trans (hS31 1 1 rfl))).trans (eu1_1))) (w2) (((show A31 2 = A 2 from (eA31 2).trans (funext (hA31 2 rfl)))).trans (ew2)) (w3) (((show A31 3 = A 3 from (eA31 3).trans (funext (hA31 3 rfl)))).trans (ew3)) (show inr (a1) by omega) (show inr (u0_10) by omega) (show 0 ≤ (u1_1) ∧ (u1_1) ≤ (n2) ∧ (n2) ≤ 65536 ∧ (u1_1) ≤ 16384 by omega) (show (u0_12) ≤ (u1_1) by omega) (show 1 ≤ (u0_10) ∧ (u0_10) ≤ 8 by omega) (show 0 ≤ (a1) ∧ (a1) < (u0_6) by omega) (show (u0_6) ≤ (n3) ∧ (n3) ≤ 16384 by omega) (show BKI ((w2)) ((w3)) ((u0_10)) ((u0_6)) by assumption) (show 1 ≤ (u0_10) by omega) (fun z35 σ35 F35ₚ A35ₚ Hₚ Oₚ hS35 hA35 y35_0_14 ey35_0_14 y35_0_15 ey35_0_15 pz35_0 pz35_1 => ⟨rretB rfl pz35_0, ?_⟩))
        refine v_back (c := c) (s := s) H (show vsub V127 V129 [0, 1, 2, 3] = true by decide +kernel) Hₚ Oₚ (fun F35 A35 H Oₚ eF35 eA35 => ?_)
        have O := OUT_trans O Oₚ
        -- Finder.nearest
        have r36 : (-2147483648 : Int) ≤ y35_0_14 ∧ y35_0_14 ≤ 2147483647 := by have h1 : (-2147483648 : Int) ≤ F35 0 14 ∧ F35 0 14 ≤ 2147483647 := H.krg 0 14 (by decide); rw [show F35 0 14 = y35_0_14 from ((eF35 0 14).trans ey35_0_14)] at h1; exact h1
        have r37 : (-2147483648 : Int) ≤ y35_0_15 ∧ y35_0_15 ≤ 2147483647 := by have h1 : (-2147483648 : Int) ≤ F35 0 15 ∧ F35 0 15 ≤ 2147483647 := H.krg 0 15 (by decide); rw [show F35 0 15 = y35_0_15 from ((eF35 0 15).trans ey35_0_15)] at h1; exact h1
        refine w_ifeq (t := 42) rfl rfl (show inr (z35) by omega) (fun b38 => ?_) (fun b38 => ?_)
        · refine Ew_of (pcₚ := 43) (fun _ => x_iconst rfl) ?_
          exact w_ireturn rfl (k (0) _ _ _ H O (SF_trans (SF_trans (SF_refl) (SF_glu (ι := [0, 1, 2, 3]) hS31 eF31 (by decide +kernel)) (any_sub (lₚ := [(0, 14), (0, 15)]) rfl)) (SF_glu (ι := [0, 1, 2, 3]) hS35 eF35 (by decide +kernel)) (any_sub (lₚ := [(0, 14), (0, 15)]) rfl)) (SA_trans (SA_trans (SA_refl) (SA_glu (ι := [0, 1, 2, 3]) hA31 eA31 (by decide +kernel)) (any_subA (lₚ := []) rfl)) (SA_glu (ι := [0, 1, 2, 3]) hA35 eA35 (by decide +kernel)) (any_subA (lₚ := []) rfl)) (y35_0_14) (((eF35 0 14).trans ey35_0_14)) (y35_0_15) (((eF35 0 15).trans ey35_0_15)) (u0_16) (((((show F35 0 16 = F31 0 16 from (eF35 0 16).trans (hS35 0 16 rfl))).trans ((show F31 0 16 = F 0 16 from (eF31 0 16).trans (hS31 0 16 rfl)))).trans (eu0_16))) (u0_17) (((((show F35 0 17 = F31 0 17 from (eF35 0 17).trans (hS35 0 17 rfl))).trans ((show F31 0 17 = F 0 17 from (eF31 0 17).trans (hS31 0 17 rfl)))).trans (eu0_17))) (u0_18) (((((show F35 0 18 = F31 0 18 from (eF35 0 18).trans (hS35 0 18 rfl))).trans ((show F31 0 18 = F 0 18 from (eF31 0 18).trans (hS31 0 18 rfl)))).trans (eu0_18))) (show (0) = 0 ∨ (0) = 1 by omega) (show (0) = 1 → (u0_10) ≤ (y35_0_14) ∧ a1 + (y35_0_14) ≤ (u0_12) ∧ 1 ≤ (y35_0_15) ∧ (y35_0_15) ≤ a1 by omega) (show (u0_16) = -1 ∨ (u0_17) = 0 ∨ (u0_10) ≤ (u0_17) ∧ (u0_16) + (u0_17) ≤ (u0_12) ∧ 1 ≤ (u0_18) ∧ (u0_18) ≤ (u0_16) by omega))
        · refine Ew_of (pcₚ := 39) (fun _ => x_iconst rfl) ?_
          refine Ew_of (pcₚ := 43) (fun _ => x_goto rfl rfl) ?_
          exact w_ireturn rfl (k (1) _ _ _ H O (SF_trans (SF_trans (SF_refl) (SF_glu (ι := [0, 1, 2, 3]) hS31 eF31 (by decide +kernel)) (any_sub (lₚ := [(0, 14), (0, 15)]) rfl)) (SF_glu (ι := [0, 1, 2, 3]) hS35 eF35 (by decide +kernel)) (any_sub (lₚ := [(0, 14), (0, 15)]) rfl)) (SA_trans (SA_trans (SA_refl) (SA_glu (ι := [0, 1, 2, 3]) hA31 eA31 (by decide +kernel)) (any_subA (lₚ := []) rfl)) (SA_glu (ι := [0, 1, 2, 3]) hA35 eA35 (by decide +kernel)) (any_subA (lₚ := []) rfl)) (y35_0_14) (((eF35 0 14).trans ey35_0_14)) (y35_0_15) (((eF35 0 15).trans ey35_0_15)) (u0_16) (((((show F35 0 16 = F31 0 16 from (eF35 0 16).trans (hS35 0 16 rfl))).trans ((show F31 0 16 = F 0 16 from (eF31 0 16).trans (hS31 0 16 rfl)))).trans (eu0_16))) (u0_17) (((((show F35 0 17 = F31 0 17 from (eF35 0 17).trans (hS35 0 17 rfl))).trans ((show F31 0 17 = F 0 17 from (eF31 0 17).trans (hS31 0 17 rfl)))).trans (eu0_17))) (u0_18) (((((show F35 0 18 = F31 0 18 from (eF35 0 18).trans (hS35 0 18 rfl))).trans ((show F31 0 18 = F 0 18 from (eF31 0 18).trans (hS31 0 18 rfl)))).trans (eu0_18))) (show (1) = 0 ∨ (1) = 1 by omega) (show (1) = 1 → (u0_10) ≤ (y35_0_14) ∧ a1 + (y35_0_14) ≤ (u0_12) ∧ 1 ≤ (y35_0_15) ∧ (y35_0_15) ≤ a1 by omega) (show (u0_16) = -1 ∨ (u0_17) = 0 ∨ (u0_10) ≤ (u0_17) ∧ (u0_16) + (u0_17) ≤ (u0_12) ∧ 1 ≤ (u0_18) ∧ (u0_18) ≤ (u0_16) by omega))
