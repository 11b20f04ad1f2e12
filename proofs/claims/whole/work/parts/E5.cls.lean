abbrev V183 : vV := [(0, 8, [(0, 0), (0, 0), (4, 0), (4, 0), (4, 0), (4, 0), (4, 0), (4, 0), (4, 0), (4, 0), (4, 0), (0, 0), (0, 0)]), (1, 0, [])]
/-- Share.takeBits: this, this.in -/
theorem C183 {σE : rS} {D N : Nat → Nat} {F : hF} {A : hA} {d c s : Nat} {Q : wQ} (H : HW V183 σE D N F A) {a1 : Int} (pf1 : F 0 10 = (D 1 : Int)) (n1 : Int) (en1 : (N 1 : Int) = n1) (u0_11 : Int) (eu0_11 : F 0 11 = u0_11) (u0_12 : Int) (eu0_12 : F 0 12 = u0_12) (w1 : Int → Int) (ew1 : A 1 = w1) (h0 : inr (a1)) (h1 : 0 ≤ (u0_11) ∧ (u0_11) ≤ (u0_12) ∧ (u0_12) ≤ 8 * (n1) ∧ (n1) ≤ 65536) (h2 : 0 ≤ (a1) ∧ (a1) ≤ 16) (k : ∀ (z : Int) (σ : rS) (F' : hF) (A' : hA), HW V183 σ D N F' A' → OUT (V183).length D N σE c s D N σ c s → SF [(0, 11)] F F' → SA [] A A' → ∀ y0_11 : Int, F' 0 11 = y0_11 → (inr (z)) → ((z) = -1 ∧ (y0_11) = (u0_11) ∨ 0 ≤ (z) ∧ (z) < p2 (a1) ∧ (y0_11) = (u0_11) + (a1) ∧ (y0_11) ≤ (u0_12)) → (IMP ((0 : Int) ≤ (z)) ((z) = bv (ub8 ((w1))) ((u0_11)) ((a1) : Int).toNat)) → ((z) = -1 → (u0_12) - (u0_11) < (a1)) → Q (some (I z)) σ c s) : Ew 183 (d + 0) 0 (rargs 0 [.ref (D 0), I a1]) [] σE c s Q := by
  have O := OUT_refl (n := (V183).length) (D := D) (N := N) (σ := σE) (c := c) (s := s)
  have HE := H
  have r1 : (-2147483648 : Int) ≤ u0_11 ∧ u0_11 ≤ 2147483647 := by have h1 : (-2147483648 : Int) ≤ F 0 11 ∧ F 0 11 ≤ 2147483647 := H.krg 0 11 (by decide); rw [show F 0 11 = u0_11 from (eu0_11)] at h1; exact h1
  have r2 : (-2147483648 : Int) ≤ u0_12 ∧ u0_12 ≤ 2147483647 := by have h1 : (-2147483648 : Int) ≤ F 0 12 ∧ F 0 12 ≤ 2147483647 := H.krg 0 12 (by decide); rw [show F 0 12 = u0_12 from (eu0_12)] at h1; exact h1
  have r3 : (0 : Int) ≤ n1 ∧ n1 ≤ 1000000 := by have h1 := H.nle 1 (by decide); have h2 : (N 1 : Int) = n1 := en1; omega
  refine Ew_of (pc' := 1) (fun _ => x_aload_n rfl rfl) ?_
  refine v_g H (o := 0) (v := I (u0_12)) rfl rfl rfl rfl rfl (congrArg (fun z : Int => I z) ((eu0_12) : F 0 12 = u0_12)) ?_
  refine Ew_of (pc' := 5) (fun _ => x_aload_n rfl rfl) ?_
  refine v_g H (o := 0) (v := I (u0_11)) rfl rfl rfl rfl rfl (congrArg (fun z : Int => I z) ((eu0_11) : F 0 11 = u0_11)) ?_
  refine w_isub rfl ?_
  refine Ew_of (pc' := 10) (fun _ => x_iload_n rfl rfl) ?_
  refine w_icmpge (t := 15) rfl rfl (show inr ((u0_12 - u0_11)) by omega) (show inr (a1) by omega) (fun b4 => ?_) (fun b4 => ?_)
  · refine Ew_of (pc' := 16) (fun _ => x_iconst rfl) ?_
    refine Ew_of (pc' := 17) (fun _ => x_istore_n rfl) ?_
    refine Ew_of (pc' := 18) (fun _ => x_iconst rfl) ?_
    refine Ew_of (pc' := 19) (fun _ => x_istore_n rfl) ?_
    have : p2 0 = 1 := by decide
    have : (0 : Int) = bv (ub8 ((w1))) ((u0_11)) (0 : Int).toNat := rfl
    suffices hl19 : ∀ (m : Nat), ∀ (ls : rO) (σ : rS) (F_19 : hF) (A_19 : hA) (x19_2 : Int) (x19_3 : Int), rlook ls 0 = some (.ref (D 0)) → rlook ls 1 = some (I (a1)) → rlook ls 2 = some (I (x19_2)) → rlook ls 3 = some (I (x19_3)) → HW V183 σ D N F_19 A_19 → OUT (V183).length D N σE c s D N σ c s → SF [] F F_19 → SA [] A A_19 → (inr (x19_2)) → (inr (x19_3)) → ((0) ≤ (x19_3)) → ((x19_3) ≤ (0) ∨ (x19_3) ≤ ((a1))) → (0 ≤ (x19_2) ∧ (x19_2) < p2 (x19_3)) → ((x19_2) = bv (ub8 ((w1))) ((u0_11)) ((x19_3) : Int).toNat) → (((a1)) - (x19_3)).toNat = m → Ew 183 (d + 0) 19 ls [] σ c s Q from
      hl19 _ _ _ _ _ (0) (0) (rk_o (rk_o (rfl) rfl rfl) rfl rfl) (rk_o (rk_o (rfl) rfl rfl) rfl rfl) (rk_o (rk_s) rfl rfl) (rk_s) H O (SF_refl) (SA_refl)     (show inr (0) by omega) (show inr (0) by omega) (show (0) ≤ (0) by omega) (show (0) ≤ (0) ∨ (0) ≤ ((a1)) by omega) (show 0 ≤ (0) ∧ (0) < p2 (0) by omega) (show (0) = bv (ub8 ((w1))) ((u0_11)) ((0) : Int).toNat by assumption) rfl
    as_aux_lemma =>
    intro m
    induction m using Nat.strongRecOn with
    | _ m ih19 =>
      intro ls σ F_19 A_19 x19_2 x19_3 l19_0 l19_1 l19_2 l19_3 H O hS_19 hA_19     j19_0 j19_1 j19_2 j19_3 j19_4 j19_5 hm19
      have j19_v : (x19_2) = bv (ub8 ((w1))) ((u0_11)) ((x19_3) : Int).toNat := by assumption
      refine Ew_of (pc' := 20) (fun _ => x_iload_n rfl l19_3) ?_
      refine Ew_of (pc' := 21) (fun _ => x_iload_n rfl l19_1) ?_
      refine w_icmpge (t := 60) rfl rfl (show inr (x19_3) by omega) (show inr (a1) by omega) (fun b5 => ?_) (fun b5 => ?_)
      · have hle : (x19_3) = (a1) := by omega
        have hl2 : (x19_2) < p2 (a1) := by rw [← hle]; omega
        have : IMP ((0 : Int) ≤ (x19_2)) ((x19_2) = bv (ub8 ((w1))) ((u0_11)) ((a1) : Int).toNat) := fun _ => by rw [← hle]; exact j19_v
        refine Ew_of (pc' := 61) (fun _ => x_aload_n rfl l19_0) ?_
        refine Ew_of (pc' := 62) (fun _ => x_dup rfl rfl) ?_
        refine v_g H (o := 0) (v := I (u0_11)) rfl rfl rfl rfl rfl (congrArg (fun z : Int => I z) (((hS_19 0 11 rfl).trans (eu0_11)) : F_19 0 11 = u0_11)) ?_
        refine Ew_of (pc' := 66) (fun _ => x_iload_n rfl l19_1) ?_
        refine w_iadd rfl ?_
        refine v_p H (o := 0) (z := (u0_11 + a1)) (v := I ((u0_11 + a1))) rfl rfl rfl rfl rfl rfl rfl rfl (show (-2147483648 : Int) ≤ (u0_11 + a1) ∧ (u0_11 + a1) ≤ 2147483647 by omega) (fun σ H O' => ?_)
        have O := OUT_trans O O'
        refine Ew_of (pc' := 71) (fun _ => x_iload_n rfl l19_2) ?_
        exact w_ireturn rfl (k (x19_2) _ _ _ H O (SF_upd (SF_trans (SF_refl) hS_19 (any_sub rfl)) rfl) (SA_trans (SA_refl) hA_19 (any_subA rfl)) ((u0_11 + a1)) (rfl) (show inr (x19_2) by omega) (show (x19_2) = -1 ∧ ((u0_11 + a1)) = (u0_11) ∨ 0 ≤ (x19_2) ∧ (x19_2) < p2 a1 ∧ ((u0_11 + a1)) = (u0_11) + a1 ∧ ((u0_11 + a1)) ≤ (u0_12) by omega) (show IMP ((0 : Int) ≤ (x19_2)) ((x19_2) = bv (ub8 ((w1))) ((u0_11)) (a1 : Int).toNat) by assumption) (show (x19_2) = -1 → (u0_12) - (u0_11) < a1 by omega))
      · refine Ew_of (pc' := 25) (fun _ => x_aload_n rfl l19_0) ?_
        refine v_g H (o := 0) (v := I (u0_11)) rfl rfl rfl rfl rfl (congrArg (fun z : Int => I z) (((hS_19 0 11 rfl).trans (eu0_11)) : F_19 0 11 = u0_11)) ?_
        refine Ew_of (pc' := 29) (fun _ => x_iload_n rfl l19_3) ?_
        refine w_iadd rfl ?_
        refine Ew_of (pc' := 32) (fun _ => x_istore rfl) ?_
        refine Ew_of (pc' := 33) (fun _ => x_iload_n rfl (rk_o (l19_2) rfl rfl)) ?_
        refine Ew_of (pc' := 34) (fun _ => x_aload_n rfl (rk_o (l19_0) rfl rfl)) ?_
        refine v_g H (o := 0) (v := .ref (D 1)) rfl rfl rfl rfl rfl (vrf (((hS_19 0 10 rfl)).trans (pf1))) ?_
        refine Ew_of (pc' := 39) (fun _ => x_iload rfl rk_s) ?_
        refine Ew_of (pc' := 40) (fun _ => x_iconst rfl) ?_
        refine w_ishrK 3 8 (by decide) (by decide) rfl (show inr ((u0_11 + x19_3)) by omega) (fun z6 gz6 dz6 => ?_)
        refine v_lB H (o := 1) rfl rfl rfl rfl (n := n1) (en1) (show 0 ≤ z6 ∧ z6 < n1 by omega) (fun v7 ev7 qv7 => ?_)
        have ev7 : (w1) (z6) = v7 := (congrFun ((funext (hA_19 1 rfl)).trans (ew1)) (z6)).symm.trans ev7
        have hv := ev7
        refine Ew_of (pc' := 44) (fun _ => x_iload rfl rk_s) ?_
        refine Ew_of (pc' := 46) (fun _ => x_bipush (z := 7) rfl (by decide)) ?_
        refine w_iandG rfl ?_
        have g8 : inr (andI ((u0_11 + x19_3)) (7)) := toI_inr _
        refine w_ishrG rfl ?_
        have g9 : inr (srI (v7) ((andI ((u0_11 + x19_3)) (7)))) := toI_inr _
        refine Ew_of (pc' := 49) (fun _ => x_iconst rfl) ?_
        refine w_iandG rfl ?_
        have g10 : inr (andI ((srI (v7) ((andI ((u0_11 + x19_3)) (7))))) (1)) := toI_inr _
        refine Ew_of (pc' := 51) (fun _ => x_iload_n rfl (rk_o (l19_3) rfl rfl)) ?_
        refine w_ishlE rfl ?_
        have g11 : inr (slI ((andI ((srI (v7) ((andI ((u0_11 + x19_3)) (7))))) (1))) (x19_3)) := toI_inr _
        refine w_iorE rfl ?_
        have g12 : inr (orI (x19_2) ((slI ((andI ((srI (v7) ((andI ((u0_11 + x19_3)) (7))))) (1))) (x19_3)))) := toI_inr _
        have hps := p2_s (y := (x19_3)) (by omega)
        have hp16 : p2 ((x19_3)) ≤ p2 16 := p2_mono (by omega)
        have hp17 : p2 16 = 65536 := by decide
        have hpp := p2_pos ((x19_3))
        have hbt := bt_c (f := (w1)) (k := ((u0_11 + x19_3))) hv (by omega) (by omega)
        have hbr := bt_rng (ub8 ((w1))) (((u0_11 + x19_3)))
        have hor : ((orI (x19_2) ((slI ((andI ((srI (v7) ((andI ((u0_11 + x19_3)) (7))))) (1))) (x19_3))))) = (x19_2) + bt (ub8 ((w1))) (((u0_11 + x19_3))) * p2 (x19_3) := by rw [hbt]; exact orI_sh (by omega) (by omega) hbr
        have hml : bt (ub8 ((w1))) (((u0_11 + x19_3))) * p2 ((x19_3)) = 0 ∨ bt (ub8 ((w1))) (((u0_11 + x19_3))) * p2 ((x19_3)) = p2 ((x19_3)) := by rcases (show bt (ub8 ((w1))) (((u0_11 + x19_3))) = 0 ∨ bt (ub8 ((w1))) (((u0_11 + x19_3))) = 1 by omega) with q | q <;> rw [q] <;> omega
        have : ((orI (x19_2) ((slI ((andI ((srI (v7) ((andI ((u0_11 + x19_3)) (7))))) (1))) (x19_3))))) = bv (ub8 ((w1))) ((u0_11)) ((x19_3) + 1 : Int).toNat := bv_s (q := ((u0_11 + x19_3))) j19_v (by omega) rfl hor rfl
        refine Ew_of (pc' := 54) (fun _ => x_istore_n rfl) ?_
        refine Ew_of (pc' := 57) (fun _ => x_iinc (len := 3) rfl (rk_o (rk_o (l19_3) rfl rfl) rfl rfl)) ?_
        refine Ew_of (pc' := 19) (fun _ => x_goto rfl rfl) ?_
        exact ih19 _ (by omega) _ _ _ _ ((orI (x19_2) ((slI ((andI ((srI (v7) ((andI ((u0_11 + x19_3)) (7))))) (1))) (x19_3))))) ((x19_3 + 1)) (rk_o (rk_o (rk_o (l19_0) rfl rfl) rfl rfl) rfl rfl) (rk_o (rk_o (rk_o (l19_1) rfl rfl) rfl rfl) rfl rfl) (rk_o (rk_s) rfl rfl) (rk_s) H O (hS_19) (hA_19)     (show inr ((orI (x19_2) ((slI ((andI ((srI (v7) ((andI ((u0_11 + x19_3)) (7))))) (1))) (x19_3))))) by omega) (show inr ((x19_3 + 1)) by omega) (show (0) ≤ ((x19_3 + 1)) by omega) (show ((x19_3 + 1)) ≤ (0) ∨ ((x19_3 + 1)) ≤ ((a1)) by omega) (show 0 ≤ ((orI (x19_2) ((slI ((andI ((srI (v7) ((andI ((u0_11 + x19_3)) (7))))) (1))) (x19_3))))) ∧ ((orI (x19_2) ((slI ((andI ((srI (v7) ((andI ((u0_11 + x19_3)) (7))))) (1))) (x19_3))))) < p2 ((x19_3 + 1)) by omega) (show ((orI (x19_2) ((slI ((andI ((srI (v7) ((andI ((u0_11 + x19_3)) (7))))) (1))) (x19_3))))) = bv (ub8 ((w1))) ((u0_11)) (((x19_3 + 1)) : Int).toNat by assumption) rfl
  · refine Ew_of (pc' := 14) (fun _ => x_iconst rfl) ?_
    have : IMP ((0 : Int) ≤ (-1)) ((-1) = bv (ub8 ((w1))) ((u0_11)) ((a1) : Int).toNat) := fun z => absurd z (by omega)
    exact w_ireturn rfl (k ((-1)) _ _ _ H O (SF_refl) (SA_refl) (u0_11) ((eu0_11)) (show inr ((-1)) by omega) (show ((-1)) = -1 ∧ (u0_11) = (u0_11) ∨ 0 ≤ ((-1)) ∧ ((-1)) < p2 a1 ∧ (u0_11) = (u0_11) + a1 ∧ (u0_11) ≤ (u0_12) by omega) (show IMP ((0 : Int) ≤ ((-1))) (((-1)) = bv (ub8 ((w1))) ((u0_11)) (a1 : Int).toNat) by assumption) (show ((-1)) = -1 → (u0_12) - (u0_11) < a1 by omega))
