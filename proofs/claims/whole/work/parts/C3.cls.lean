abbrev V126 : vV := [(0, 5, [(4, 0), (4, 0), (4, 0), (4, 0), (0, 0), (0, 0), (0, 0), (4, 0), (4, 0), (0, 0), (0, 0), (0, 0), (0, 0), (0, 0), (0, 0), (0, 0), (0, 0), (0, 0), (0, 0)]), (1, 1, []), (1, 1, []), (1, 1, [])]
/-- Finder.note: this, this.literals, this.lengths, this.distances -/
theorem C126 {σE : rS} {D N : Nat → Nat} {F : hF} {A : hA} {d c s : Nat} {Q : wQ} (H : HW V126 σE D N F A) {a1 : Int} (pf1 : F 0 1 = (D 1 : Int)) (pf2 : F 0 2 = (D 2 : Int)) (pf3 : F 0 3 = (D 3 : Int)) (n1 : Int) (en1 : (N 1 : Int) = n1) (n2 : Int) (en2 : (N 2 : Int) = n2) (n3 : Int) (en3 : (N 3 : Int) = n3) (u0_4 : Int) (eu0_4 : F 0 4 = u0_4) (u0_10 : Int) (eu0_10 : F 0 10 = u0_10) (u0_14 : Int) (eu0_14 : F 0 14 = u0_14) (u0_15 : Int) (eu0_15 : F 0 15 = u0_15) (w1 : Int → Int) (ew1 : A 1 = w1) (w2 : Int → Int) (ew2 : A 2 = w2) (w3 : Int → Int) (ew3 : A 3 = w3) (tot : Int) (h0 : inr (a1)) (h1 : (n1) = (n2) ∧ (n3) = (n2) ∧ (n2) ≤ 65536 ∧ ((n2) = 0 ∨ 64 ≤ (n2)) ∧ lgq ((n2)) = 0) (h2 : 0 ≤ (u0_4) ∧ (u0_4) ≤ (n2) ∧ (u0_4) ≤ 16383) (h3 : 0 ≤ (a1)) (h4 : (u0_10) ≤ (u0_14) ∧ 1 ≤ (u0_15) ∧ (u0_15) ≤ 16384) (h5 : FDI ((w1)) ((w2)) ((w3)) ((u0_4)) (tot) ((u0_10))) (k : ∀ (σ : rS) (D' N' : Nat → Nat) (F' : hF) (A' : hA) (c' s' : Nat), HW V126 σ D' N' F' A' → OUT (V126).length D N σE c s D' N' σ c' s' → SD [1, 2, 3] D D' → SD [1, 2, 3] N N' → SF [(0, 1), (0, 2), (0, 3), (0, 4)] F F' → SA [1, 2, 3] A A' → F' 0 1 = (D' 1 : Int) → F' 0 2 = (D' 2 : Int) → F' 0 3 = (D' 3 : Int) → ∀ m1 : Int, (N' 1 : Int) = m1 → ∀ m2 : Int, (N' 2 : Int) = m2 → ∀ m3 : Int, (N' 3 : Int) = m3 → ∀ y0_4 : Int, F' 0 4 = y0_4 → ∀ v1 : Int → Int, A' 1 = v1 → ∀ v2 : Int → Int, A' 2 = v2 → ∀ v3 : Int → Int, A' 3 = v3 → ((m1) = (m2) ∧ (m3) = (m2) ∧ (m2) ≤ 65536 ∧ ((m2) = 0 ∨ 64 ≤ (m2)) ∧ lgq ((m2)) = 0) → ((y0_4) = (u0_4) + 1 ∧ (y0_4) ≤ (m2)) → (FDI ((v1)) ((v2)) ((v3)) ((u0_4) + 1) (tot + (a1) + (u0_14)) ((u0_10))) → (sq ((v1)) ((v2)) ((v3)) ((u0_4) + 1) = sq ((w1)) ((w2)) ((w3)) ((u0_4)) ++ [((a1), (u0_14), (u0_15))]) → Q none σ c' s') : Ew 126 (d + 1) 0 (rargs 0 [.ref (D 0), I a1]) [] σE c s Q := by
  have O := OUT_refl (n := (V126).length) (D := D) (N := N) (σ := σE) (c := c) (s := s)
  have HE := H
  have r1 : (-2147483648 : Int) ≤ u0_4 ∧ u0_4 ≤ 2147483647 := by have h1 : (-2147483648 : Int) ≤ F 0 4 ∧ F 0 4 ≤ 2147483647 := H.krg 0 4 (by decide); rw [show F 0 4 = u0_4 from (eu0_4)] at h1; exact h1
  have r2 : (-2147483648 : Int) ≤ u0_10 ∧ u0_10 ≤ 2147483647 := by have h1 : (-2147483648 : Int) ≤ F 0 10 ∧ F 0 10 ≤ 2147483647 := H.krg 0 10 (by decide); rw [show F 0 10 = u0_10 from (eu0_10)] at h1; exact h1
  have r3 : (-2147483648 : Int) ≤ u0_14 ∧ u0_14 ≤ 2147483647 := by have h1 : (-2147483648 : Int) ≤ F 0 14 ∧ F 0 14 ≤ 2147483647 := H.krg 0 14 (by decide); rw [show F 0 14 = u0_14 from (eu0_14)] at h1; exact h1
  have r4 : (-2147483648 : Int) ≤ u0_15 ∧ u0_15 ≤ 2147483647 := by have h1 : (-2147483648 : Int) ≤ F 0 15 ∧ F 0 15 ≤ 2147483647 := H.krg 0 15 (by decide); rw [show F 0 15 = u0_15 from (eu0_15)] at h1; exact h1
  have r5 : (0 : Int) ≤ n1 ∧ n1 ≤ 1000000 := by have h1 := H.nle 1 (by decide); have h2 : (N 1 : Int) = n1 := en1; omega
  have r6 : (0 : Int) ≤ n2 ∧ n2 ≤ 1000000 := by have h1 := H.nle 2 (by decide); have h2 : (N 2 : Int) = n2 := en2; omega
  have r7 : (0 : Int) ≤ n3 ∧ n3 ≤ 1000000 := by have h1 := H.nle 3 (by decide); have h2 : (N 3 : Int) = n3 := en3; omega
  have hc60 : ∀ (ls : rO) (σ : rS) (D_c60 N_c60 : Nat → Nat) (c_c60 s_c60 : Nat) (F_c60 : hF) (A_c60 : hA) , rlook ls 0 = some (.ref (D_c60 0)) → rlook ls 1 = some (I (a1)) → HW V126 σ D_c60 N_c60 F_c60 A_c60 → OUT (V126).length D N σE c s D_c60 N_c60 σ c_c60 s_c60 → SD [1, 2, 3] D D_c60 → SD [1, 2, 3] N N_c60 → SF [(0, 1), (0, 2), (0, 3)] F F_c60 → SA [1, 2, 3] A A_c60 → F_c60 0 1 = (D_c60 1 : Int) → F_c60 0 2 = (D_c60 2 : Int) → F_c60 0 3 = (D_c60 3 : Int) → ∀ mc60_1 : Int, (N_c60 1 : Int) = mc60_1 → ∀ mc60_2 : Int, (N_c60 2 : Int) = mc60_2 → ∀ mc60_3 : Int, (N_c60 3 : Int) = mc60_3 → ∀ wc60_1 : Int → Int, A_c60 1 = wc60_1 → ∀ wc60_2 : Int → Int, A_c60 2 = wc60_2 → ∀ wc60_3 : Int → Int, A_c60 3 = wc60_3 → ((mc60_1) = (mc60_2) ∧ (mc60_3) = (mc60_2) ∧ (mc60_2) ≤ 65536 ∧ ((mc60_2) = 0 ∨ 64 ≤ (mc60_2)) ∧ lgq ((mc60_2)) = 0) → ((u0_4) < (mc60_2)) → (FDI ((wc60_1)) ((wc60_2)) ((wc60_3)) ((u0_4)) (tot) ((u0_10))) → (SMQ ((w1)) ((w2)) ((w3)) ((wc60_1)) ((wc60_2)) ((wc60_3)) ((u0_4))) → Ew 126 (d + 1) 60 ls [] σ c_c60 s_c60 Q := by
   as_aux_lemma =>
    intro  ls σ D_c60 N_c60 c_c60 s_c60 F_c60 A_c60  lc60_0 lc60_1 H O hD_c60 hN_c60 hS_c60 hA_c60 pmc60_1 pmc60_2 pmc60_3 mc60_1 emc60_1 mc60_2 emc60_2 mc60_3 emc60_3  wc60_1 ewc60_1 wc60_2 ewc60_2 wc60_3 ewc60_3 jc60_0 jc60_1 jc60_2 jc60_3
    have r8 : (0 : Int) ≤ mc60_1 ∧ mc60_1 ≤ 1000000 := by have h1 := H.nle 1 (by decide); have h2 : (N_c60 1 : Int) = mc60_1 := emc60_1; omega
    have r9 : (0 : Int) ≤ mc60_2 ∧ mc60_2 ≤ 1000000 := by have h1 := H.nle 2 (by decide); have h2 : (N_c60 2 : Int) = mc60_2 := emc60_2; omega
    have r10 : (0 : Int) ≤ mc60_3 ∧ mc60_3 ≤ 1000000 := by have h1 := H.nle 3 (by decide); have h2 : (N_c60 3 : Int) = mc60_3 := emc60_3; omega
    have hfd2 : FDI ((wc60_1)) ((wc60_2)) ((wc60_3)) ((u0_4)) (tot) ((u0_10)) := by assumption
    have hsm2 : SMQ ((w1)) ((w2)) ((w3)) ((wc60_1)) ((wc60_2)) ((wc60_3)) ((u0_4)) := by assumption
    refine Ew_of (pc' := 61) (fun _ => x_aload_n rfl lc60_0) ?_
    refine v_g H (o := 0) (v := .ref (D_c60 1)) rfl rfl rfl rfl rfl (vrf (pmc60_1)) ?_
    refine Ew_of (pc' := 65) (fun _ => x_aload_n rfl lc60_0) ?_
    refine v_g H (o := 0) (v := I (u0_4)) rfl rfl rfl rfl rfl (congrArg (fun z : Int => I z) (((hS_c60 0 4 rfl).trans (eu0_4)) : F_c60 0 4 = u0_4)) ?_
    refine Ew_of (pc' := 69) (fun _ => x_iload_n rfl lc60_1) ?_
    refine v_sI H (o := 1) (z := a1) rfl rfl rfl rfl (n := mc60_1) (emc60_1) (show 0 ≤ u0_4 ∧ u0_4 < mc60_1 by omega) (show inr (a1) by omega) (fun σ H O' => ?_)
    have O := OUT_trans O O'
    refine Ew_of (pc' := 71) (fun _ => x_aload_n rfl lc60_0) ?_
    refine v_g H (o := 0) (v := .ref (D_c60 2)) rfl rfl rfl rfl rfl (vrf (pmc60_2)) ?_
    refine Ew_of (pc' := 75) (fun _ => x_aload_n rfl lc60_0) ?_
    refine v_g H (o := 0) (v := I (u0_4)) rfl rfl rfl rfl rfl (congrArg (fun z : Int => I z) (((hS_c60 0 4 rfl).trans (eu0_4)) : F_c60 0 4 = u0_4)) ?_
    refine Ew_of (pc' := 79) (fun _ => x_aload_n rfl lc60_0) ?_
    refine v_g H (o := 0) (v := I (u0_14)) rfl rfl rfl rfl rfl (congrArg (fun z : Int => I z) (((hS_c60 0 14 rfl).trans (eu0_14)) : F_c60 0 14 = u0_14)) ?_
    refine v_sI H (o := 2) (z := u0_14) rfl rfl rfl rfl (n := mc60_2) (emc60_2) (show 0 ≤ u0_4 ∧ u0_4 < mc60_2 by omega) (show inr (u0_14) by omega) (fun σ H O' => ?_)
    have O := OUT_trans O O'
    refine Ew_of (pc' := 84) (fun _ => x_aload_n rfl lc60_0) ?_
    refine v_g H (o := 0) (v := .ref (D_c60 3)) rfl rfl rfl rfl rfl (vrf (pmc60_3)) ?_
    refine Ew_of (pc' := 88) (fun _ => x_aload_n rfl lc60_0) ?_
    refine v_g H (o := 0) (v := I (u0_4)) rfl rfl rfl rfl rfl (congrArg (fun z : Int => I z) (((hS_c60 0 4 rfl).trans (eu0_4)) : F_c60 0 4 = u0_4)) ?_
    refine Ew_of (pc' := 92) (fun _ => x_aload_n rfl lc60_0) ?_
    refine v_g H (o := 0) (v := I (u0_15)) rfl rfl rfl rfl rfl (congrArg (fun z : Int => I z) (((hS_c60 0 15 rfl).trans (eu0_15)) : F_c60 0 15 = u0_15)) ?_
    refine v_sI H (o := 3) (z := u0_15) rfl rfl rfl rfl (n := mc60_3) (emc60_3) (show 0 ≤ u0_4 ∧ u0_4 < mc60_3 by omega) (show inr (u0_15) by omega) (fun σ H O' => ?_)
    have O := OUT_trans O O'
    refine Ew_of (pc' := 97) (fun _ => x_aload_n rfl lc60_0) ?_
    refine Ew_of (pc' := 98) (fun _ => x_dup rfl rfl) ?_
    refine v_g H (o := 0) (v := I (u0_4)) rfl rfl rfl rfl rfl (congrArg (fun z : Int => I z) (((hS_c60 0 4 rfl).trans (eu0_4)) : F_c60 0 4 = u0_4)) ?_
    refine Ew_of (pc' := 102) (fun _ => x_iconst rfl) ?_
    refine w_iadd rfl ?_
    refine v_p H (o := 0) (z := (u0_4 + 1)) (v := I ((u0_4 + 1))) rfl rfl rfl rfl rfl rfl rfl rfl (show (-2147483648 : Int) ≤ (u0_4 + 1) ∧ (u0_4 + 1) ≤ 2147483647 by omega) (fun σ H O' => ?_)
    have O := OUT_trans O O'
    have : FDI ((upd1 (wc60_1) (u0_4) (a1))) ((upd1 (wc60_2) (u0_4) (u0_14))) ((upd1 (wc60_3) (u0_4) (u0_15))) ((u0_4) + 1) (tot + (a1) + (u0_14)) ((u0_10)) := FDI_next hfd2 (by omega) rfl (by omega) (by omega) (by omega) rfl
    have : sq ((upd1 (wc60_1) (u0_4) (a1))) ((upd1 (wc60_2) (u0_4) (u0_14))) ((upd1 (wc60_3) (u0_4) (u0_15))) ((u0_4) + 1) = sq ((w1)) ((w2)) ((w3)) ((u0_4)) ++ [((a1), (u0_14), (u0_15))] := sq_note (m := (u0_4) + 1) (by omega) (fun i a b => (hsm2 i a b).1) (fun i a b => (hsm2 i a b).2.1) (fun i a b => (hsm2 i a b).2.2) (by omega) (by omega) (by omega) rfl
    exact w_ret rfl (k _ _ _ _ _ _ _ H O (SD_trans (SD_refl) hD_c60 (any_subA rfl)) (SD_trans (SD_refl) hN_c60 (any_subA rfl)) (SF_upd (SF_trans (SF_refl) hS_c60 (any_sub rfl)) rfl) (SA_upd (SA_upd (SA_upd (SA_trans (SA_refl) hA_c60 (any_subA rfl)) rfl) rfl) rfl) (pmc60_1) (pmc60_2) (pmc60_3) (mc60_1) (emc60_1) (mc60_2) (emc60_2) (mc60_3) (emc60_3) ((u0_4 + 1)) (rfl) (upd1 (wc60_1) (u0_4) (a1)) (congrArg (fun q => upd1 q (u0_4) (a1)) (ewc60_1)) (upd1 (wc60_2) (u0_4) (u0_14)) (congrArg (fun q => upd1 q (u0_4) (u0_14)) (ewc60_2)) (upd1 (wc60_3) (u0_4) (u0_15)) (congrArg (fun q => upd1 q (u0_4) (u0_15)) (ewc60_3)) (show (mc60_1) = (mc60_2) ∧ (mc60_3) = (mc60_2) ∧ (mc60_2) ≤ 65536 ∧ ((mc60_2) = 0 ∨ 64 ≤ (mc60_2)) ∧ lgq ((mc60_2)) = 0 by omega) (show ((u0_4 + 1)) = (u0_4) + 1 ∧ ((u0_4 + 1)) ≤ (mc60_2) by omega) (show FDI ((upd1 (wc60_1) (u0_4) (a1))) ((upd1 (wc60_2) (u0_4) (u0_14))) ((upd1 (wc60_3) (u0_4) (u0_15))) ((u0_4) + 1) (tot + a1 + (u0_14)) ((u0_10)) by assumption) (show sq ((upd1 (wc60_1) (u0_4) (a1))) ((upd1 (wc60_2) (u0_4) (u0_14))) ((upd1 (wc60_3) (u0_4) (u0_15))) ((u0_4) + 1) = sq ((w1)) ((w2)) ((w3)) ((u0_4)) ++ [(a1, (u0_14), (u0_15))] by assumption))
  have hfd : FDI ((w1)) ((w2)) ((w3)) ((u0_4)) (tot) ((u0_10)) := by assumption
  refine Ew_of (pc' := 1) (fun _ => x_aload_n rfl rfl) ?_
  refine v_g H (o := 0) (v := I (u0_4)) rfl rfl rfl rfl rfl (congrArg (fun z : Int => I z) ((eu0_4) : F 0 4 = u0_4)) ?_
  refine Ew_of (pc' := 5) (fun _ => x_aload_n rfl rfl) ?_
  refine v_g H (o := 0) (v := .ref (D 2)) rfl rfl rfl rfl rfl (vrf (pf2)) ?_
  refine v_len H (o := 2) rfl rfl rfl rfl (n := n2) (en2) ?_
  refine w_icmpne (t := 60) rfl rfl (show inr (u0_4) by omega) (show inr (n2) by omega) (fun b11 => ?_) (fun b11 => ?_)
  · have : SMQ ((w1)) ((w2)) ((w3)) ((w1)) ((w2)) ((w3)) ((u0_4)) := by first | assumption | exact fun i a b => ⟨rfl, rfl, rfl⟩
    exact hc60  _ _ _ _ _ _ _ _  (rfl) (rfl) H O (SD_refl) (SD_refl) (SF_refl) (SA_refl) (pf1) (pf2) (pf3) (n1) (en1) (n2) (en2) (n3) (en3)  (w1) (ew1) (w2) (ew2) (w3) (ew3) (show (n1) = (n2) ∧ (n3) = (n2) ∧ (n2) ≤ 65536 ∧ ((n2) = 0 ∨ 64 ≤ (n2)) ∧ lgq ((n2)) = 0 by omega) (show (u0_4) < (n2) by omega) (show FDI ((w1)) ((w2)) ((w3)) ((u0_4)) (tot) ((u0_10)) by assumption) (show SMQ ((w1)) ((w2)) ((w3)) ((w1)) ((w2)) ((w3)) ((u0_4)) by assumption)
  · refine Ew_of (pc' := 14) (fun _ => x_bipush (z := 64) rfl (by decide)) ?_
    refine Ew_of (pc' := 15) (fun _ => x_iconst rfl) ?_
    refine Ew_of (pc' := 16) (fun _ => x_aload_n rfl rfl) ?_
    refine v_g H (o := 0) (v := I (u0_4)) rfl rfl rfl rfl rfl (congrArg (fun z : Int => I z) ((eu0_4) : F 0 4 = u0_4)) ?_
    refine w_imul rfl ?_
    refine v_max rfl rfl (show inr (64) by omega) (show inr ((4 * u0_4)) by omega) (fun z12 gz12 => ?_)
    refine Ew_of (pc' := 24) (fun _ => x_istore_n rfl) ?_
    have hlg : lgq ((z12)) = 0 := lgq_s (m := (n2)) (by omega) (by omega) (by omega)
    refine Ew_of (pc' := 25) (fun _ => x_aload_n rfl (rk_o (rfl) rfl rfl)) ?_
    refine Ew_of (pc' := 26) (fun _ => x_aload_n rfl (rk_o (rfl) rfl rfl)) ?_
    refine v_g H (o := 0) (v := .ref (D 1)) rfl rfl rfl rfl rfl (vrf (pf1)) ?_
    refine Ew_of (pc' := 30) (fun _ => x_iload_n rfl rk_s) ?_
    have hglit := grow_ok (m := (n1)) (n := (z12)) (by omega) (by omega) (by omega)
    have hgC := hglit.1
    have hgS := hglit.2
    refine v_growI H (p := 0) (k := 1) (t := 1) (n := z12) rfl (by rfl) rfl rfl (fun _ => rfl) rfl rfl rfl rfl (fun z => vrf (z := (z : Int)) rfl) rfl rfl rfl rfl (by decide +kernel) rfl (m := n1) (en1) (show n1 < z12 ∧ z12 ≤ 1000000 by omega) (show pC (n1 : Int).toNat + 1 ≤ pC (z12 : Int).toNat by assumption) (show pS (n1 : Int).toNat + z12 ≤ pS (z12 : Int).toNat by assumption) (fun σ D13 N13 F13 A13 H O' hD13 hN13 em13 hS13 pm13 hA13 ga13 => ?_)
    have O := OUT_trans O O'
    have ga13 : ∀ i, 0 ≤ i → i < n1 → A13 1 i = (w1) i := fun i a b => (ga13 i a b).trans (congrFun (ew1) i)
    have pf13_0_1 : F13 0 1 = (D13 1 : Int) := pm13
    have pf13_0_2 : F13 0 2 = (D13 2 : Int) := (hS13 0 2 rfl).trans ((pf2).trans (congrArg (fun q : Nat => (q : Int)) (hD13 2 rfl).symm))
    have pf13_0_3 : F13 0 3 = (D13 3 : Int) := (hS13 0 3 rfl).trans ((pf3).trans (congrArg (fun q : Nat => (q : Int)) (hD13 3 rfl).symm))
    refine Ew_of (pc' := 37) (fun _ => x_aload_n rfl (rk_o (rfl) rfl rfl)) ?_
    refine Ew_of (pc' := 38) (fun _ => x_aload_n rfl (rk_o (rfl) rfl rfl)) ?_
    refine Ew_stk (show ([.ref (D 0), .ref (D 0)] : List Value) = [.ref (D13 0), .ref (D13 0)] by rw [show D13 0 = D 0 from ((hD13 0 rfl))]) ?_
    refine v_g H (o := 0) (v := .ref (D13 2)) rfl rfl rfl rfl rfl (vrf (pf13_0_2)) ?_
    refine Ew_of (pc' := 42) (fun _ => x_iload_n rfl rk_s) ?_
    have hglen := grow_ok (m := (n2)) (n := (z12)) (by omega) (by omega) (by omega)
    have hgC := hglen.1
    have hgS := hglen.2
    refine v_growI H (p := 0) (k := 2) (t := 2) (n := z12) rfl (by rfl) rfl rfl (fun _ => rfl) rfl rfl rfl rfl (fun z => vrf (z := (z : Int)) rfl) rfl rfl rfl rfl (by decide +kernel) rfl (m := n2) ((congrArg (fun q : Nat => (q : Int)) (hN13 2 rfl)).trans (en2)) (show n2 < z12 ∧ z12 ≤ 1000000 by omega) (show pC (n2 : Int).toNat + 1 ≤ pC (z12 : Int).toNat by assumption) (show pS (n2 : Int).toNat + z12 ≤ pS (z12 : Int).toNat by assumption) (fun σ D14 N14 F14 A14 H O' hD14 hN14 em14 hS14 pm14 hA14 ga14 => ?_)
    have O := OUT_trans O O'
    have ga14 : ∀ i, 0 ≤ i → i < n2 → A14 2 i = (w2) i := fun i a b => (ga14 i a b).trans (congrFun ((funext (hA13 2 rfl)).trans (ew2)) i)
    have pf14_0_1 : F14 0 1 = (D14 1 : Int) := (hS14 0 1 rfl).trans ((pf13_0_1).trans (congrArg (fun q : Nat => (q : Int)) (hD14 1 rfl).symm))
    have pf14_0_2 : F14 0 2 = (D14 2 : Int) := pm14
    have pf14_0_3 : F14 0 3 = (D14 3 : Int) := (hS14 0 3 rfl).trans ((pf13_0_3).trans (congrArg (fun q : Nat => (q : Int)) (hD14 3 rfl).symm))
    refine Ew_of (pc' := 49) (fun _ => x_aload_n rfl (rk_o (rfl) rfl rfl)) ?_
    refine Ew_of (pc' := 50) (fun _ => x_aload_n rfl (rk_o (rfl) rfl rfl)) ?_
    refine Ew_stk (show ([.ref (D 0), .ref (D 0)] : List Value) = [.ref (D14 0), .ref (D14 0)] by rw [show D14 0 = D 0 from (((hD14 0 rfl)).trans ((hD13 0 rfl)))]) ?_
    refine v_g H (o := 0) (v := .ref (D14 3)) rfl rfl rfl rfl rfl (vrf (pf14_0_3)) ?_
    refine Ew_of (pc' := 54) (fun _ => x_iload_n rfl rk_s) ?_
    have hgdis := grow_ok (m := (n3)) (n := (z12)) (by omega) (by omega) (by omega)
    have hgC := hgdis.1
    have hgS := hgdis.2
    refine v_growI H (p := 0) (k := 3) (t := 3) (n := z12) rfl (by rfl) rfl rfl (fun _ => rfl) rfl rfl rfl rfl (fun z => vrf (z := (z : Int)) rfl) rfl rfl rfl rfl (by decide +kernel) rfl (m := n3) ((congrArg (fun q : Nat => (q : Int)) (hN14 3 rfl)).trans ((congrArg (fun q : Nat => (q : Int)) (hN13 3 rfl)).trans (en3))) (show n3 < z12 ∧ z12 ≤ 1000000 by omega) (show pC (n3 : Int).toNat + 1 ≤ pC (z12 : Int).toNat by assumption) (show pS (n3 : Int).toNat + z12 ≤ pS (z12 : Int).toNat by assumption) (fun σ D15 N15 F15 A15 H O' hD15 hN15 em15 hS15 pm15 hA15 ga15 => ?_)
    have O := OUT_trans O O'
    have ga15 : ∀ i, 0 ≤ i → i < n3 → A15 3 i = (w3) i := fun i a b => (ga15 i a b).trans (congrFun ((funext (hA14 3 rfl)).trans ((funext (hA13 3 rfl)).trans (ew3))) i)
    have pf15_0_1 : F15 0 1 = (D15 1 : Int) := (hS15 0 1 rfl).trans ((pf14_0_1).trans (congrArg (fun q : Nat => (q : Int)) (hD15 1 rfl).symm))
    have pf15_0_2 : F15 0 2 = (D15 2 : Int) := (hS15 0 2 rfl).trans ((pf14_0_2).trans (congrArg (fun q : Nat => (q : Int)) (hD15 2 rfl).symm))
    have pf15_0_3 : F15 0 3 = (D15 3 : Int) := pm15
    have : FDI ((A13 1)) ((A14 2)) ((A15 3)) ((u0_4)) (tot) ((u0_10)) := FDI_congr hfd ga13 ga14 ga15 (by omega) (by omega)
    have : SMQ ((w1)) ((w2)) ((w3)) ((A13 1)) ((A14 2)) ((A15 3)) ((u0_4)) := fun i a b => ⟨ga13 i a (by omega), ga14 i a (by omega), ga15 i a (by omega)⟩
    have : SMQ ((w1)) ((w2)) ((w3)) ((A13 1)) ((A14 2)) ((A15 3)) ((u0_4)) := by first | assumption | exact fun i a b => ⟨rfl, rfl, rfl⟩
    have r16 : (0 : Int) ≤ z12 ∧ z12 ≤ 1000000 := by have h1 := H.nle 1 (by decide); have h2 : (N15 1 : Int) = z12 := (congrArg (fun q : Nat => (q : Int)) (hN15 1 rfl)).trans ((congrArg (fun q : Nat => (q : Int)) (hN14 1 rfl)).trans (em13)); omega
    exact hc60  _ _ _ _ _ _ _ _  ((rk_o (rfl) rfl rfl).trans (congrArg (fun q : Nat => some (Value.ref q)) (((((hD15 0 rfl)).trans ((hD14 0 rfl))).trans ((hD13 0 rfl)))).symm)) (rk_o (rfl) rfl rfl) H O (SD_trans (SD_trans (SD_trans (SD_refl) hD13 (any_subA rfl)) hD14 (any_subA rfl)) hD15 (any_subA rfl)) (SD_trans (SD_trans (SD_trans (SD_refl) hN13 (any_subA rfl)) hN14 (any_subA rfl)) hN15 (any_subA rfl)) (SF_trans (SF_trans (SF_trans (SF_refl) hS13 (any_sub rfl)) hS14 (any_sub rfl)) hS15 (any_sub rfl)) (SA_trans (SA_trans (SA_trans (SA_refl) hA13 (any_subA rfl)) hA14 (any_subA rfl)) hA15 (any_subA rfl)) (pf15_0_1) (pf15_0_2) (pf15_0_3) (z12) ((congrArg (fun q : Nat => (q : Int)) (hN15 1 rfl)).trans ((congrArg (fun q : Nat => (q : Int)) (hN14 1 rfl)).trans (em13))) (z12) ((congrArg (fun q : Nat => (q : Int)) (hN15 2 rfl)).trans (em14)) (z12) (em15)  (A13 1) ((funext (hA15 1 rfl)).trans (funext (hA14 1 rfl))) (A14 2) (funext (hA15 2 rfl)) (A15 3) (rfl) (show (z12) = (z12) ∧ (z12) = (z12) ∧ (z12) ≤ 65536 ∧ ((z12) = 0 ∨ 64 ≤ (z12)) ∧ lgq ((z12)) = 0 by omega) (show (u0_4) < (z12) by omega) (show FDI ((A13 1)) ((A14 2)) ((A15 3)) ((u0_4)) (tot) ((u0_10)) by assumption) (show SMQ ((w1)) ((w2)) ((w3)) ((A13 1)) ((A14 2)) ((A15 3)) ((u0_4)) by assumption)
