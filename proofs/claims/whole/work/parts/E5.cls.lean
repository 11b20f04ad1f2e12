abbrev V183 : vV := [(0, 8, [(0, 0), (0, 0), (4, 0), (4, 0), (4, 0), (4, 0), (4, 0), (4, 0), (4, 0), (4, 0), (4, 0), (0, 0), (0, 0)]), (1, 0, [])]
/-- Share.takeBits: this, this.in -/
theorem C183 {σE : rS} {D N : Nat → Nat} {F : hF} {A : hA} {d c s : Nat} {Q : wQ} (H : HW V183 σE D N F A) {a1 : Int} (pf1 : F 0 10 = (D 1 : Int)) (n1 : Int) (en1 : (N 1 : Int) = n1) (u0_11 : Int) (eu0_11 : F 0 11 = u0_11) (u0_12 : Int) (eu0_12 : F 0 12 = u0_12) (h0 : inr (a1)) (h1 : 0 ≤ (u0_11) ∧ (u0_11) ≤ (u0_12) ∧ (u0_12) ≤ 8 * (n1) ∧ (n1) ≤ 65536) (h2 : 0 ≤ (a1) ∧ (a1) ≤ 16) (k : ∀ (z : Int) (σ : rS) (F' : hF) (A' : hA), HW V183 σ D N F' A' → OUT (V183).length D N σE c s D N σ c s → SF [(0, 11)] F F' → SA [] A A' → ∀ y0_11 : Int, F' 0 11 = y0_11 → (inr (z)) → ((z) = -1 ∧ (y0_11) = (u0_11) ∨ 0 ≤ (z) ∧ (z) < p2 (a1) ∧ (y0_11) = (u0_11) + (a1) ∧ (y0_11) ≤ (u0_12)) → Q (some (I z)) σ c s) : Ew 183 (d + 0) 0 (rargs 0 [.ref (D 0), I a1]) [] σE c s Q := by
  have O := OUT_refl (n := (V183).length) (D := D) (N := N) (σ := σE) (c := c) (s := s)
  have HE := H
  have r1 : (-2147483648 : Int) ≤ u0_11 ∧ u0_11 ≤ 2147483647 := by have h1 : (-2147483648 : Int) ≤ F 0 11 ∧ F 0 11 ≤ 2147483647 := H.krg 0 11 (by decide); rw [show F 0 11 = u0_11 from (eu0_11)] at h1; exact h1
  have r2 : (-2147483648 : Int) ≤ u0_12 ∧ u0_12 ≤ 2147483647 := by have h1 : (-2147483648 : Int) ≤ F 0 12 ∧ F 0 12 ≤ 2147483647 := H.krg 0 12 (by decide); rw [show F 0 12 = u0_12 from (eu0_12)] at h1; exact h1
  have r3 : (0 : Int) ≤ n1 ∧ n1 ≤ 1000000 := by have h1 := H.nle 1 (by decide); have h2 : (N 1 : Int) = n1 := en1; omega
  refine Ew_of (pc' := 1) (fun _ => x_aload_n rfl rfl) ?_
  refine v_g H (o := 0) (v := I (u0_12)) rfl rfl rfl rfl rfl (congrArg (fun z : Int => I z) ((eu0_12) : F 0 12 = u0_12)) ?_
  refine Ew_of (pc' := 5) (fun _ => x_aload_n rfl rfl) ?_
  refine v_g H (o := 0) (v := I (u0_11)) rfl rfl rfl rfl rfl (congrArg (fun z : Int => I z) ((eu0_11) : F 0 11 = u0_11)) ?_
  refine w_isub rfl ?_
  refine Ew_of (pc' := 10) (fun _ => x_iload_n rfl rfl) ?_
  refine w_icmpge (t := 15) rfl rfl (show inr ((u0_12 - u0_11)) by omega) (show inr (a1) by omega) (fun b4 => ?_) (fun b4 => ?_)
  · refine Ew_of (pc' := 16) (fun _ => x_iconst rfl) ?_
    refine Ew_of (pc' := 17) (fun _ => x_istore_n rfl) ?_
    refine Ew_of (pc' := 18) (fun _ => x_iconst rfl) ?_
    refine Ew_of (pc' := 19) (fun _ => x_istore_n rfl) ?_
    have : p2 0 = 1 := by decide
    suffices hl19 : ∀ (m : Nat), ∀ (ls : rO) (σ : rS) (F_19 : hF) (A_19 : hA) (x19_2 : Int) (x19_3 : Int), rlook ls 0 = some (.ref (D 0)) → rlook ls 1 = some (I (a1)) → rlook ls 2 = some (I (x19_2)) → rlook ls 3 = some (I (x19_3)) → HW V183 σ D N F_19 A_19 → OUT (V183).length D N σE c s D N σ c s → SF [] F F_19 → SA [] A A_19 → (inr (x19_2)) → (inr (x19_3)) → ((0) ≤ (x19_3)) → ((x19_3) ≤ (0) ∨ (x19_3) ≤ ((a1))) → (0 ≤ (x19_2) ∧ (x19_2) < p2 (x19_3)) → (((a1)) - (x19_3)).toNat = m → Ew 183 (d + 0) 19 ls [] σ c s Q from
      hl19 _ _ _ _ _ (0) (0) (rk_o (rk_o (rfl) rfl rfl) rfl rfl) (rk_o (rk_o (rfl) rfl rfl) rfl rfl) (rk_o (rk_s) rfl rfl) (rk_s) H O (SF_refl) (SA_refl)     (show inr (0) by omega) (show inr (0) by omega) (show (0) ≤ (0) by omega) (show (0) ≤ (0) ∨ (0) ≤ ((a1)) by omega) (show 0 ≤ (0) ∧ (0) < p2 (0) by omega) rfl
    as_aux_lemma =>
    intro m
    induction m using Nat.strongRecOn with
    | _ m ih19 =>
      intro ls σ F_19 A_19 x19_2 x19_3 l19_0 l19_1 l19_2 l19_3 H O hS_19 hA_19     j19_0 j19_1 j19_2 j19_3 j19_4 hm19
      refine Ew_of (pc' := 20) (fun _ => x_iload_n rfl l19_3) ?_
      refine Ew_of (pc' := 21) (fun _ => x_iload_n rfl l19_1) ?_
      refine w_icmpge (t := 60) rfl rfl (show inr (x19_3) by omega) (show inr (a1) by omega) (fun b5 => ?_) (fun b5 => ?_)
      · have hle : (x19_3) = (a1) := by omega
        have hl2 : (x19_2) < p2 (a1) := by rw [← hle]; omega
        refine Ew_of (pc' := 61) (fun _ => x_aload_n rfl l19_0) ?_
        refine Ew_of (pc' := 62) (fun _ => x_dup rfl rfl) ?_
        refine v_g H (o := 0) (v := I (u0_11)) rfl rfl rfl rfl rfl (congrArg (fun z : Int => I z) (((hS_19 0 11 rfl).trans (eu0_11)) : F_19 0 11 = u0_11)) ?_
        refine Ew_of (pc' := 66) (fun _ => x_iload_n rfl l19_1) ?_
        refine w_iadd rfl ?_
        refine v_p H (o := 0) (z := (u0_11 + a1)) (v := I ((u0_11 + a1))) rfl rfl rfl rfl rfl rfl rfl rfl (show (-2147483648 : Int) ≤ (u0_11 + a1) ∧ (u0_11 + a1) ≤ 2147483647 by omega) (fun σ H O' => ?_)
        have O := OUT_trans O O'
        refine Ew_of (pc' := 71) (fun _ => x_iload_n rfl l19_2) ?_
        exact w_ireturn rfl (k (x19_2) _ _ _ H O (SF_upd (SF_trans (SF_refl) hS_19 (any_sub rfl)) rfl) (SA_trans (SA_refl) hA_19 (any_subA rfl)) ((u0_11 + a1)) (rfl) (show inr (x19_2) by omega) (show (x19_2) = -1 ∧ ((u0_11 + a1)) = (u0_11) ∨ 0 ≤ (x19_2) ∧ (x19_2) < p2 a1 ∧ ((u0_11 + a1)) = (u0_11) + a1 ∧ ((u0_11 + a1)) ≤ (u0_12) by omega))
      · refine Ew_of (pc' := 25) (fun _ => x_aload_n rfl l19_0) ?_
        refine v_g H (o := 0) (v := I (u0_11)) rfl rfl rfl rfl rfl (congrArg (fun z : Int => I z) (((hS_19 0 11 rfl).trans (eu0_11)) : F_19 0 11 = u0_11)) ?_
        refine Ew_of (pc' := 29) (fun _ => x_iload_n rfl l19_3) ?_
        refine w_iadd rfl ?_
        refine Ew_of (pc' := 32) (fun _ => x_istore rfl) ?_
        refine Ew_of (pc' := 33) (fun _ => x_iload_n rfl (rk_o (l19_2) rfl rfl)) ?_
        refine Ew_of (pc' := 34) (fun _ => x_aload_n rfl (rk_o (l19_0) rfl rfl)) ?_
        refine v_g H (o := 0) (v := .ref (D 1)) rfl rfl rfl rfl rfl (vrf (((hS_19 0 10 rfl)).trans (pf1))) ?_
        refine Ew_of (pc' := 39) (fun _ => x_iload rfl rk_s) ?_
        refine Ew_of (pc' := 40) (fun _ => x_iconst rfl) ?_
        refine w_ishrK 3 8 (by decide) (by decide) rfl (show inr ((u0_11 + x19_3)) by omega) (fun z6 gz6 dz6 => ?_)
        refine v_lB H (o := 1) rfl rfl rfl rfl (n := n1) (en1) (show 0 ≤ z6 ∧ z6 < n1 by omega) (fun v7 ev7 qv7 => ?_)
        have ev7 : (A 1) (z6) = v7 := (congrFun (funext (hA_19 1 rfl)) (z6)).symm.trans ev7
        refine Ew_of (pc' := 44) (fun _ => x_iload rfl rk_s) ?_
        refine Ew_of (pc' := 46) (fun _ => x_bipush (z := 7) rfl (by decide)) ?_
        refine w_iand rfl (show inr ((u0_11 + x19_3)) by omega) (show inr (7) by omega) (fun z8 gz8 gaz8 gbz8 => ?_)
        refine w_ishrA rfl (fun z9 gz9 => ?_)
        refine Ew_of (pc' := 49) (fun _ => x_iconst rfl) ?_
        refine w_iand rfl (show inr (z9) by omega) (show inr (1) by omega) (fun z10 gz10 gaz10 gbz10 => ?_)
        refine Ew_of (pc' := 51) (fun _ => x_iload_n rfl (rk_o (l19_3) rfl rfl)) ?_
        have hbt : ((z10) : Int) = 0 ∨ ((z10) : Int) = 1 := by omega
        have hml : ((z10) : Int) * p2 ((x19_3)) = 0 ∨ ((z10) : Int) * p2 ((x19_3)) = p2 ((x19_3)) := by rcases hbt with q | q <;> rw [q] <;> omega
        refine w_ishlT rfl (show 0 ≤ x19_3 ∧ x19_3 ≤ 31 by omega) ?_
        have hps := p2_s (y := (x19_3)) (by omega)
        have hp16 : p2 ((x19_3)) ≤ p2 16 := p2_mono (by omega)
        have hp17 : p2 16 = 65536 := by decide
        have hpp := p2_pos ((x19_3))
        refine w_iorN rfl (show inr (x19_2) by omega) (show inr ((z10 * p2 (x19_3))) by omega) (fun z12 gz12 dz12 => ?_)
        refine Ew_of (pc' := 54) (fun _ => x_istore_n rfl) ?_
        refine Ew_of (pc' := 57) (fun _ => x_iinc (len := 3) rfl (rk_o (rk_o (l19_3) rfl rfl) rfl rfl)) ?_
        refine Ew_of (pc' := 19) (fun _ => x_goto rfl rfl) ?_
        exact ih19 _ (by omega) _ _ _ _ (z12) ((x19_3 + 1)) (rk_o (rk_o (rk_o (l19_0) rfl rfl) rfl rfl) rfl rfl) (rk_o (rk_o (rk_o (l19_1) rfl rfl) rfl rfl) rfl rfl) (rk_o (rk_s) rfl rfl) (rk_s) H O (hS_19) (hA_19)     (show inr (z12) by omega) (show inr ((x19_3 + 1)) by omega) (show (0) ≤ ((x19_3 + 1)) by omega) (show ((x19_3 + 1)) ≤ (0) ∨ ((x19_3 + 1)) ≤ ((a1)) by omega) (show 0 ≤ (z12) ∧ (z12) < p2 ((x19_3 + 1)) by omega) rfl
  · refine Ew_of (pc' := 14) (fun _ => x_iconst rfl) ?_
    exact w_ireturn rfl (k ((-1)) _ _ _ H O (SF_refl) (SA_refl) (u0_11) ((eu0_11)) (show inr ((-1)) by omega) (show ((-1)) = -1 ∧ (u0_11) = (u0_11) ∨ 0 ≤ ((-1)) ∧ ((-1)) < p2 a1 ∧ (u0_11) = (u0_11) + a1 ∧ (u0_11) ≤ (u0_12) by omega))
